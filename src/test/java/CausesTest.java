/** Promises 19 to 27. */
public final class CausesTest {
  private static final Class<IndexOutOfBoundsException> INDEX = IndexOutOfBoundsException.class;
  private static final Class<IllegalArgumentException> ARGUMENT = IllegalArgumentException.class;
  private static final Class<IllegalStateException> STATE = IllegalStateException.class;
  private static final Class<UnsupportedOperationException> UNSUPPORTED =
      UnsupportedOperationException.class;

  public static void main(String[] args) {
    cause();
    causeLimit();
    causeRefused();
    wrongCauses();
    depth();
    setUp();
    pay();
    payCut();
    payRefused();
    unpaid();
    question();
    stay();
    questionIs();
    questionBounds();
    Check.end();
  }

  private static void cause() {
    Writersroom room = Rooms.with(0, 0, 4);
    Check.same("ahead", room.cause(0, 1), true);
    Check.same("back", room.cause(1, 0), false);
    Check.fails("so already", UNSUPPORTED, () -> room.cause(0, 1));
    room.setCut(2, true);
    Check.same("to a cut one", room.cause(1, 2), true);
    Check.same("from a cut one", room.cause(2, 3), true);
    Check.same("back to a cut one", room.cause(3, 2), false);
    Check.fails("first -1", INDEX, () -> room.cause(-1, 0));
    Check.fails("first 4", INDEX, () -> room.cause(4, 0));
    Check.fails("second -1", INDEX, () -> room.cause(0, -1));
    Check.fails("second 4", INDEX, () -> room.cause(0, 4));
    Check.fails("no such scene, both the same", INDEX, () -> room.cause(4, 4));
    Check.fails("both the same", ARGUMENT, () -> room.cause(3, 3));
    room.move(1, 0, 0);
    Check.same("the smaller number is ahead at one minute", room.cause(1, 3), true);
    Check.same("and not otherwise", room.wrongCauses(), 1);
  }

  private static void causeLimit() {
    Writersroom room = Rooms.with(0, 0, 12);
    int made = 0;
    for (int first = 0; first < 12; first++) {
      for (int second = first + 1; second < 12 && made < 60; second++) {
        Check.same("cause " + made, room.cause(first, second), true);
        made++;
      }
    }
    Check.fails("a 61st cause", UNSUPPORTED, () -> room.cause(11, 0));
    Check.same("it was not made", room.wrongCauses(), 0);
    Check.same("depth over them", room.depth(11), 12 - 3);
  }

  private static void causeRefused() {
    Writersroom room = Rooms.with(0, 0, 1);
    Rooms.scene(room, 1, 0);
    Rooms.scene(room, 1, 1);
    room.air();
    Check.fails("to what aired", STATE, () -> room.cause(1, 0));
    Check.fails("the same ahead of aired", ARGUMENT, () -> room.cause(0, 0));
    Check.same("from what aired", room.cause(0, 1), true);
    room.strike(true);
    Check.fails("in a strike", STATE, () -> room.cause(1, 2));
    Check.fails("strike ahead of so already", STATE, () -> room.cause(0, 1));
    Check.fails("the same ahead of strike", ARGUMENT, () -> room.cause(1, 1));
    room.strike(false);
    Check.same("it was not made in the strike", room.cause(1, 2), true);
  }

  private static void wrongCauses() {
    Writersroom room = Rooms.with(0, 0, 3);
    Check.same("none", room.wrongCauses(), 0);
    room.cause(2, 0);
    room.cause(0, 1);
    room.cause(2, 1);
    Check.same("two go back", room.wrongCauses(), 2);
    room.move(1, 1, 0);
    Check.same("one is moved behind", room.wrongCauses(), 1);
    room.setCut(0, true);
    Check.same("its scene cut", room.wrongCauses(), 0);
    room.setCut(0, false);
    room.setCut(2, true);
    Check.same("the other scene cut", room.wrongCauses(), 0);
  }

  private static void depth() {
    Writersroom room = Rooms.with(0, 0, 6);
    Check.same("by itself", room.depth(3), 1);
    room.cause(0, 1);
    room.cause(1, 2);
    room.cause(2, 4);
    room.cause(0, 4);
    room.cause(5, 3);
    Check.same("the greatest row", room.depth(4), 4);
    Check.same("within the row", room.depth(2), 3);
    Check.same("not by a cause behind it", room.depth(3), 1);
    room.cause(4, 1);
    Check.same("a ring ends", room.depth(4), 4);
    room.setCut(1, true);
    Check.same("a cut one", room.depth(1), 0);
    Check.same("the row is broken there", room.depth(2), 1);
    Check.same("behind it", room.depth(4), 2);
    room.move(0, 7, 0);
    Check.same("by the order", room.depth(4), 2);
    room.move(2, 7, 1);
    Check.same("no cause is ahead", room.depth(4), 1);
    Check.fails("scene -1", INDEX, () -> room.depth(-1));
    Check.fails("scene 6", INDEX, () -> room.depth(6));
  }

  private static void setUp() {
    Writersroom room = Rooms.with(0, 0, 1);
    Rooms.scene(room, 1, 0);
    Check.fails("scene -1", INDEX, () -> room.setUp(-1));
    Check.fails("scene 2", INDEX, () -> room.setUp(2));
    for (int i = 0; i < 10; i++) {
      Check.same("set-up " + i, room.setUp(0), i);
    }
    room.air();
    Check.fails("in what aired", STATE, () -> room.setUp(0));
    room.strike(true);
    Check.fails("in a strike", STATE, () -> room.setUp(1));
    Check.fails("scene ahead of strike", INDEX, () -> room.setUp(2));
    room.strike(false);
    for (int i = 10; i < 20; i++) {
      Check.same("set-up " + i, room.setUp(1), i);
    }
    Check.fails("a 21st set-up", UNSUPPORTED, () -> room.setUp(1));
    Check.fails("aired ahead of 20", STATE, () -> room.setUp(0));
    Check.same("20 set-ups", room.unpaid(), 20);
  }

  private static void pay() {
    Writersroom room = Rooms.with(0, 0, 3);
    room.setUp(1);
    Check.same("in one behind", room.pay(0, 2), true);
    Check.same("paid", room.unpaid(), 0);
    Check.same("in the same one", room.pay(0, 1), false);
    Check.same("in place of where it was", room.unpaid(), 1);
    Check.same("in one ahead", room.pay(0, 0), false);
    room.move(0, 1, 0);
    Check.same("that is behind now", room.unpaid(), 0);
    Check.fails("set-up -1", INDEX, () -> room.pay(-1, 0));
    Check.fails("set-up 1", INDEX, () -> room.pay(1, 0));
    Check.fails("scene -1", INDEX, () -> room.pay(0, -1));
    Check.fails("scene 3", INDEX, () -> room.pay(0, 3));
    Check.same("nothing changed", room.unpaid(), 0);
  }

  private static void payCut() {
    Writersroom room = Rooms.with(0, 0, 3);
    room.setUp(0);
    room.setCut(2, true);
    Check.same("in a cut one", room.pay(0, 2), false);
    Check.same("not paid there", room.unpaid(), 1);
    room.setCut(2, false);
    Check.same("taken back", room.unpaid(), 0);
    room.setCut(0, true);
    Check.same("a set-up in a cut one", room.unpaid(), 0);
    Check.same("is left out", room.pay(0, 1), false);
    room.setCut(0, false);
    Check.same("and is paid when it is taken back", room.paidShare(), 1.0f);
  }

  private static void payRefused() {
    Writersroom room = Rooms.with(0, 0, 2);
    Rooms.scene(room, 1, 0);
    Rooms.scene(room, 2, 0);
    room.setUp(0);
    room.setUp(0);
    room.setUp(0);
    room.pay(0, 1);
    room.pay(1, 2);
    room.air();
    Check.fails("it was paid in what aired", STATE, () -> room.pay(0, 2));
    Check.fails("to pay in what aired", STATE, () -> room.pay(1, 1));
    Check.same("set up in what aired", room.pay(1, 3), true);
    Check.same("not paid before", room.pay(2, 2), true);
    Check.fails("index ahead of aired", INDEX, () -> room.pay(0, 4));
    room.strike(true);
    Check.fails("in a strike", STATE, () -> room.pay(1, 2));
    Check.fails("index ahead of strike", INDEX, () -> room.pay(3, 2));
    Check.same("all are paid", room.unpaid(), 0);
    room.strike(false);
    room.air();
    Check.fails("paid in what aired since", STATE, () -> room.pay(2, 3));
    Check.same("paid in what did not", room.pay(1, 3), true);
  }

  private static void unpaid() {
    Writersroom room = Rooms.with(0, 0, 3);
    Check.same("none", room.unpaid(), 0);
    room.setUp(0);
    room.setUp(0);
    room.setUp(1);
    Check.same("three", room.unpaid(), 3);
    room.pay(0, 1);
    room.pay(2, 0);
    Check.same("one is paid", room.unpaid(), 2);
    room.setCut(1, true);
    Check.same("its scene cut", room.unpaid(), 2);
    room.setCut(0, true);
    Check.same("all set up in cut ones", room.unpaid(), 0);
  }

  private static void question() {
    Writersroom room = Rooms.with(0, 2, 1);
    Rooms.scene(room, 1, 0);
    for (int i = 0; i < 19; i++) {
      Check.same("question " + i, room.question(0, i % 2, i % 8), i);
    }
    Check.fails("scene -1", INDEX, () -> room.question(-1, 0, 0));
    Check.fails("scene 2", INDEX, () -> room.question(2, 0, 0));
    Check.fails("fact -1", INDEX, () -> room.question(0, -1, 0));
    Check.fails("fact 2", INDEX, () -> room.question(0, 2, 8));
    Check.fails("due -1", ARGUMENT, () -> room.question(0, 0, -1));
    Check.fails("due 8", ARGUMENT, () -> room.question(0, 0, 8));
    room.air();
    Check.fails("in what aired", STATE, () -> room.question(0, 0, 7));
    Check.fails("range ahead of aired", ARGUMENT, () -> room.question(0, 0, 8));
    room.strike(true);
    Check.fails("in a strike", STATE, () -> room.question(1, 0, 7));
    Check.fails("index ahead of strike", INDEX, () -> room.question(2, 0, 8));
    room.strike(false);
    Check.same("due in what aired", room.question(1, 0, 0), 19);
    Check.fails("a 21st question", UNSUPPORTED, () -> room.question(1, 0, 7));
    Check.fails("aired ahead of 20", STATE, () -> room.question(0, 0, 7));
    Check.fails("question 20", INDEX, () -> room.questionIs(20));
  }

  private static void stay() {
    Writersroom room = Rooms.with(0, 1, 1);
    room.question(0, 0, 0);
    room.question(0, 0, 0);
    Check.same("was not", room.stay(0, true), false);
    Check.same("was", room.stay(0, true), true);
    Check.same("the other is not", room.stay(1, false), false);
    room.air();
    Check.same("though it aired", room.stay(0, false), true);
    Check.same("not any more", room.stay(0, false), false);
    Check.fails("question -1", INDEX, () -> room.stay(-1, true));
    Check.fails("question 2", INDEX, () -> room.stay(2, true));
    room.strike(true);
    Check.fails("in a strike", STATE, () -> room.stay(0, true));
    Check.fails("index ahead of strike", INDEX, () -> room.stay(2, true));
    room.strike(false);
    Check.same("nothing changed", room.stay(0, false), false);
  }

  private static void questionIs() {
    Writersroom room = Rooms.with(0, 1, 2);
    room.question(0, 0, 0);
    Check.same("waiting", room.questionIs(0), 'w');
    room.stay(0, true);
    Check.same("meant to stay open", room.questionIs(0), 's');
    room.tell(1, 0);
    Check.same("answered ahead of meant", room.questionIs(0), 'a');
    room.setCut(1, true);
    Check.same("its answer cut", room.questionIs(0), 's');
    room.setCut(0, true);
    Check.same("its scene cut", room.questionIs(0), '-');
    room.setCut(0, false);
    room.stay(0, false);
    room.air();
    Check.same("late", room.questionIs(0), 'l');
    room.stay(0, true);
    Check.same("meant ahead of late", room.questionIs(0), 's');
    Check.fails("question -1", INDEX, () -> room.questionIs(-1));
    Check.fails("question 1", INDEX, () -> room.questionIs(1));
  }

  private static void questionBounds() {
    Writersroom room = Rooms.with(0, 2, 1);
    Rooms.scene(room, 2, 0);
    Rooms.scene(room, 3, 0);
    room.question(1, 0, 2);
    room.question(1, 0, 3);
    room.tell(0, 0);
    room.tell(1, 0);
    Check.same("told ahead, and there", room.questionIs(1), 'w');
    room.tell(2, 1);
    Check.same("another fact", room.questionIs(1), 'w');
    room.tell(2, 0);
    Check.same("told behind what is due", room.questionIs(0), 'w');
    Check.same("told in the episode that is due", room.questionIs(1), 'a');
    Rooms.air(room, 2);
    Check.same("its episode did not air", room.questionIs(0), 'w');
    room.air();
    Check.same("its episode aired", room.questionIs(0), 'l');
    Check.same("answered though it did not air", room.questionIs(1), 'a');
  }
}
