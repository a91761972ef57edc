/** Promises 38 to 45. */
public final class ProductionTest {
  private static final Class<IndexOutOfBoundsException> INDEX = IndexOutOfBoundsException.class;
  private static final Class<IllegalArgumentException> ARGUMENT = IllegalArgumentException.class;
  private static final Class<IllegalStateException> STATE = IllegalStateException.class;
  private static final Class<UnsupportedOperationException> UNSUPPORTED =
      UnsupportedOperationException.class;

  public static void main(String[] args) {
    never();
    say();
    sayRefused();
    sayLimit();
    wrongLines();
    shooting();
    shootingWithChildren();
    shootingInOrder();
    leaving();
    leavingOften();
    promise();
    broken();
    credit();
    creditOfCausesAndSetUps();
    creditByArbitration();
    Check.end();
  }

  private static void never() {
    Writersroom room = Rooms.with(2, 0, 0);
    Check.same("was not", room.never(1, 99, true), false);
    Check.same("was", room.never(1, 99, true), true);
    Check.same("not the other person", room.never(0, 99, false), false);
    Check.same("not another word", room.never(1, 98, false), false);
    Check.same("the least word", room.never(1, 0, true), false);
    Check.same("the least word then", room.never(1, 0, false), true);
    Check.same("not any more", room.never(1, 99, false), true);
    Check.same("it was not", room.never(1, 99, false), false);
    Check.fails("person -1", INDEX, () -> room.never(-1, 0, true));
    Check.fails("person 2", INDEX, () -> room.never(2, 100, true));
    Check.fails("word -1", ARGUMENT, () -> room.never(0, -1, true));
    Check.fails("word 100", ARGUMENT, () -> room.never(0, 100, true));
    room.strike(true);
    Check.fails("in a strike", STATE, () -> room.never(0, 0, true));
    Check.fails("index ahead of strike", INDEX, () -> room.never(2, 0, true));
    Check.fails("range ahead of strike", ARGUMENT, () -> room.never(0, 100, true));
    room.strike(false);
    Check.same("nothing changed", room.never(0, 0, false), false);
  }

  private static void say() {
    Writersroom room = Rooms.with(2, 0, 2);
    Rooms.present(room, 0, 0, 1);
    room.never(0, 7, true);
    Check.same("never says it", room.say(0, 0, 7), false);
    Check.same("says another word", room.say(0, 0, 8), true);
    Check.same("another person says it", room.say(0, 1, 7), true);
    Check.same("the least word", room.say(0, 0, 0), true);
    Check.same("the greatest word", room.say(0, 0, 99), true);
    room.setCut(0, true);
    Check.same("in a cut one", room.say(0, 0, 8), true);
    Check.same("never in a cut one", room.say(0, 0, 7), false);
    Check.fails("not present", UNSUPPORTED, () -> room.say(1, 0, 7));
  }

  private static void sayRefused() {
    Writersroom room = Rooms.with(1, 0, 1);
    Rooms.scene(room, 1, 0);
    Rooms.present(room, 0, 0);
    room.never(0, 1, true);
    Check.fails("scene -1", INDEX, () -> room.say(-1, 0, 1));
    Check.fails("scene 2", INDEX, () -> room.say(2, 0, 100));
    Check.fails("person -1", INDEX, () -> room.say(0, -1, 1));
    Check.fails("person 1", INDEX, () -> room.say(0, 1, 100));
    Check.fails("word -1", ARGUMENT, () -> room.say(0, 0, -1));
    Check.fails("word 100", ARGUMENT, () -> room.say(0, 0, 100));
    Check.fails("word ahead of not present", ARGUMENT, () -> room.say(1, 0, 100));
    room.air();
    Check.fails("in what aired", STATE, () -> room.say(0, 0, 1));
    Check.fails("word ahead of aired", ARGUMENT, () -> room.say(0, 0, 100));
    room.strike(true);
    Check.fails("in a strike, not present", STATE, () -> room.say(1, 0, 1));
    room.strike(false);
    Check.fails("not present", UNSUPPORTED, () -> room.say(1, 0, 1));
    Check.same("no line was added", room.wrongLines(), 0);
  }

  private static void sayLimit() {
    Writersroom room = Rooms.with(1, 0, 1);
    Rooms.present(room, 0, 0);
    room.never(0, 1, true);
    for (int i = 0; i < 90; i++) {
      Check.same("line " + i, room.say(0, 0, 1), false);
    }
    Check.fails("a 91st line", UNSUPPORTED, () -> room.say(0, 0, 1));
    Check.same("90 lines", room.wrongLines(), 90);
  }

  private static void wrongLines() {
    Writersroom room = Rooms.with(2, 0, 2);
    Rooms.present(room, 0, 0, 1);
    Rooms.present(room, 1, 0);
    room.say(0, 0, 3);
    room.say(0, 1, 3);
    room.say(1, 0, 3);
    Check.same("none", room.wrongLines(), 0);
    room.never(0, 3, true);
    Check.same("told behind the lines", room.wrongLines(), 2);
    room.present(1, 0, false);
    Check.same("not present any more", room.wrongLines(), 2);
    room.setCut(0, true);
    Check.same("one cut", room.wrongLines(), 1);
    room.never(0, 3, false);
    Check.same("not any more", room.wrongLines(), 0);
  }

  private static void shooting() {
    Writersroom room = Rooms.with(1, 0, 3);
    for (int scene = 0; scene < 3; scene++) {
      Rooms.present(room, scene, 0);
    }
    Check.same("three scenes, a grown one in each", room.shooting(0), 1);
    room.scene(0, 30, 0, 0, 0);
    Check.same("four scenes", room.shooting(0), 2);
    room.scene(0, 31, 0, 9, 0);
    Check.same("another set", room.shooting(0), 3);
    room.scene(7, 0, 0, 0, 0);
    Check.same("another episode", room.shooting(7), 1);
    Check.same("is not in this one", room.shooting(0), 3);
    room.setCut(0, true);
    Check.same("one cut", room.shooting(0), 2);
    Check.same("no scenes", room.shooting(6), 0);
    Check.fails("episode -1", ARGUMENT, () -> room.shooting(-1));
    Check.fails("episode 8", ARGUMENT, () -> room.shooting(8));
    Writersroom full = Rooms.with(0, 0, 30);
    Check.same("30 scenes", full.shooting(0), 10);
  }

  private static void shootingWithChildren() {
    Writersroom room = new Writersroom();
    room.person(true);
    room.person(true);
    for (int i = 0; i < 4; i++) {
      Rooms.scene(room, 0, i);
    }
    Rooms.present(room, 0, 0);
    Rooms.present(room, 1, 0);
    Check.same("a child in two of three", room.shooting(0), 2);
    room.setCut(3, true);
    Check.same("the first three on a day", room.shooting(0), 1);
    Rooms.present(room, 2, 0);
    Check.same("a child in three", room.shooting(0), 2);
    room.present(2, 0, false);
    Rooms.present(room, 2, 1);
    Check.same("each child by itself", room.shooting(0), 1);
    Rooms.present(room, 0, 1);
    Rooms.present(room, 1, 1);
    Check.same("the other child in three", room.shooting(0), 2);
    Writersroom all = new Writersroom();
    all.person(true);
    for (int i = 0; i < 30; i++) {
      Rooms.scene(all, 0, 0);
      Rooms.present(all, i, 0);
    }
    Check.same("30 scenes with a child", all.shooting(0), 15);
  }

  /** Scenes 0 to 3 with the child fill two days by two, 4 and 5 without it the rest of them. */
  private static void shootingInOrder() {
    Writersroom room = new Writersroom();
    room.person(true);
    for (int i = 0; i < 6; i++) {
      Rooms.scene(room, 0, i);
    }
    for (int scene = 0; scene < 4; scene++) {
      Rooms.present(room, scene, 0);
    }
    Check.same("on the first day that is free", room.shooting(0), 2);
    room.move(4, 0, 0);
    room.move(5, 0, 0);
    Check.same("in another order: 0 4 5, 1 2, 3", room.shooting(0), 3);
    room.present(3, 0, false);
    Check.same("the last one without the child: 0 4 5, 1 2 3", room.shooting(0), 2);
  }

  private static void leaving() {
    Writersroom room = Rooms.with(3, 1, 3);
    room.move(1, 1, 0);
    room.move(2, 2, 0);
    for (int scene = 0; scene < 3; scene++) {
      Rooms.present(room, scene, 0);
      room.act(scene, 0, 0);
    }
    Check.same("all three", room.leaving(0, 0), 3);
    Check.same("with the second one", room.leaving(0, 1), 2);
    Check.same("with the third one", room.leaving(0, 2), 1);
    Check.same("with the last one", room.leaving(0, 7), 0);
    Check.same("who does not act", room.leaving(1, 0), 0);
    Rooms.present(room, 1, 1);
    Rooms.present(room, 2, 1);
    Check.same("present, but cannot know it", room.leaving(0, 0), 3);
    room.tell(1, 0);
    Check.same("can know it since the second one", room.leaving(0, 0), 1);
    room.present(2, 1, false);
    Check.same("knows it, but is not present", room.leaving(0, 0), 2);
    room.setCut(0, true);
    Check.same("one cut", room.leaving(0, 0), 1);
    room.present(2, 0, false);
    Check.same("acts of who is not present any more", room.leaving(0, 0), 1);
    Check.fails("person -1", INDEX, () -> room.leaving(-1, 0));
    Check.fails("person 3", INDEX, () -> room.leaving(3, 8));
    Check.fails("episode -1", ARGUMENT, () -> room.leaving(0, -1));
    Check.fails("episode 8", ARGUMENT, () -> room.leaving(0, 8));
  }

  private static void leavingOften() {
    Writersroom room = Rooms.with(3, 2, 1);
    Rooms.present(room, 0, 0, 1, 2);
    room.act(0, 0, 0);
    room.act(0, 0, 1);
    Check.same("a scene counts once", room.leaving(0, 0), 1);
    room.tell(0, 0);
    room.tell(0, 1);
    room.keep(0, 1, 0, true);
    room.keep(0, 2, 1, true);
    Check.same("each act goes to another one", room.leaving(0, 0), 0);
    room.keep(0, 1, 1, true);
    Check.same("one act for which there is none", room.leaving(0, 0), 1);
    room.act(0, 2, 1);
    Check.same("the first person can take it", room.leaving(2, 0), 0);
  }

  private static void promise() {
    Writersroom room = Rooms.with(2, 0, 0);
    Check.same("none before", room.promise(0, 7), -1);
    Check.same("7 before", room.promise(0, 0), 7);
    Check.same("0 before", room.promise(0, 3), 0);
    Check.same("none to the other one", room.promise(1, 3), -1);
    Check.fails("person -1", INDEX, () -> room.promise(-1, 0));
    Check.fails("person 2", INDEX, () -> room.promise(2, 8));
    Check.fails("episode -1", ARGUMENT, () -> room.promise(0, -1));
    Check.fails("episode 8", ARGUMENT, () -> room.promise(0, 8));
    room.strike(true);
    Check.fails("in a strike", STATE, () -> room.promise(0, 5));
    Check.fails("index ahead of strike", INDEX, () -> room.promise(2, 5));
    Check.fails("range ahead of strike", ARGUMENT, () -> room.promise(0, 8));
    room.strike(false);
    Rooms.air(room, 8);
    Check.same("though all aired", room.promise(0, 1), 3);
  }

  private static void broken() {
    Writersroom room = Rooms.with(2, 0, 2);
    Check.same("no promises", room.broken(), 0);
    room.promise(0, 7);
    Check.same("all eight", room.broken(), 8);
    Rooms.present(room, 0, 0);
    Rooms.present(room, 1, 0);
    Check.same("kept in the first one", room.broken(), 7);
    room.move(1, 3, 0);
    Check.same("kept in two", room.broken(), 6);
    room.promise(1, 0);
    Check.same("over all people", room.broken(), 7);
    room.promise(0, 2);
    Check.same("not those behind it", room.broken(), 3);
    room.setCut(0, true);
    Check.same("one cut", room.broken(), 4);
  }

  private static void credit() {
    Writersroom room = new Writersroom();
    Check.same("no scenes", room.credit(0, 0), 0);
    room.scene(0, 0, 0, 0, 0);
    Check.same("all of it", room.credit(0, 0), 1000);
    Check.same("nothing", room.credit(0, 5), 0);
    room.scene(0, 1, 0, 0, 5);
    room.scene(0, 2, 0, 0, 5);
    Check.same("a third, rounded down", room.credit(0, 0), 333);
    Check.same("two thirds, rounded down", room.credit(0, 5), 666);
    room.scene(7, 0, 0, 0, 3);
    Check.same("another episode", room.credit(7, 3), 1000);
    Check.same("is not in this one", room.credit(0, 3), 0);
    room.setCut(1, true);
    Check.same("one cut", room.credit(0, 5), 500);
    Check.fails("episode -1", ARGUMENT, () -> room.credit(-1, 0));
    Check.fails("episode 8", ARGUMENT, () -> room.credit(8, 0));
    Check.fails("writer -1", ARGUMENT, () -> room.credit(0, -1));
    Check.fails("writer 6", ARGUMENT, () -> room.credit(0, 6));
  }

  private static void creditOfCausesAndSetUps() {
    Writersroom room = new Writersroom();
    for (int writer = 0; writer < 4; writer++) {
      room.scene(0, writer, 0, 0, writer);
    }
    room.cause(0, 1);
    Check.same("2 of 5 for a cause", room.credit(0, 0), 400);
    room.cause(3, 0);
    Check.same("2 of 6, though it is not ahead", room.credit(0, 3), 333);
    Check.same("none for what is caused", room.credit(0, 1), 166);
    room.setUp(1);
    Check.same("2 of 7 for a set-up", room.credit(0, 1), 285);
    room.pay(0, 2);
    Check.same("3 of 9 where it is paid", room.credit(0, 2), 333);
    Check.same("2 of 9 where it is set up", room.credit(0, 1), 222);
    room.pay(0, 0);
    Check.same("2 of 7, not paid by that", room.credit(0, 0), 285);
    room.pay(0, 2);
    room.setCut(1, true);
    Check.same("1 of 4, a cause of a cut one", room.credit(0, 0), 250);
    Check.same("1 of 4, set up in a cut one", room.credit(0, 2), 250);
  }

  private static void creditByArbitration() {
    Writersroom room = new Writersroom();
    for (int i = 0; i < 10; i++) {
      room.scene(0, i, 0, 0, i == 0 ? 1 : 2);
    }
    Check.same("1 of 10 is 100", room.credit(0, 1), 100);
    room.scene(0, 30, 0, 0, 2);
    Check.same("1 of 11 is less", room.credit(0, 1), 0);
    Check.same("what counts for all is the same", room.credit(0, 2), 909);
  }
}
