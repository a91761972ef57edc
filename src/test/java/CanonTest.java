import java.util.NoSuchElementException;

/** Promises 28 to 34. */
public final class CanonTest {
  private static final Class<IndexOutOfBoundsException> INDEX = IndexOutOfBoundsException.class;
  private static final Class<IllegalArgumentException> ARGUMENT = IllegalArgumentException.class;
  private static final Class<IllegalStateException> STATE = IllegalStateException.class;
  private static final Class<NoSuchElementException> NONE = NoSuchElementException.class;

  public static void main(String[] args) {
    state();
    stateLimit();
    clashesAndRepair();
    past();
    isSo();
    remembers();
    remembersRefused();
    recap();
    recapOfOneAct();
    recapRefused();
    Check.end();
  }

  private static void state() {
    Writersroom room = Rooms.with(0, 2, 1);
    Rooms.scene(room, 1, 0);
    Check.same("first", room.state(0, 0, true, false), 0);
    Check.same("second, of another fact", room.state(0, 1, false, true), 1);
    Check.fails("scene -1", INDEX, () -> room.state(-1, 0, true, true));
    Check.fails("scene 2", INDEX, () -> room.state(2, 0, true, true));
    Check.fails("fact -1", INDEX, () -> room.state(0, -1, true, true));
    Check.fails("fact 2", INDEX, () -> room.state(0, 2, true, true));
    room.air();
    Check.fails("in what aired", STATE, () -> room.state(0, 0, true, true));
    Check.fails("index ahead of aired", INDEX, () -> room.state(0, 2, true, true));
    room.strike(true);
    Check.fails("in a strike", STATE, () -> room.state(1, 0, false, true));
    Check.fails("index ahead of strike", INDEX, () -> room.state(2, 0, true, true));
    room.strike(false);
    Check.same("third", room.state(1, 0, true, false), 2);
    Check.same("no refused one is there", room.clashes(0), 0);
  }

  private static void stateLimit() {
    Writersroom room = Rooms.with(0, 1, 1);
    for (int i = 0; i < 60; i++) {
      Check.same("statement " + i, room.state(0, 0, i % 2 == 0, false), i);
    }
    Class<UnsupportedOperationException> unsupported = UnsupportedOperationException.class;
    Check.fails("a 61st statement", unsupported, () -> room.state(0, 0, true, true));
    Check.same("30 by 30", room.clashes(0), 900);
    Check.same("half of them", room.repair(0), 30);
    room.strike(true);
    Check.fails("strike ahead of 60", STATE, () -> room.state(0, 0, true, true));
  }

  private static void clashesAndRepair() {
    Writersroom room = Rooms.with(0, 2, 4);
    Check.same("no statements", room.clashes(0), 0);
    Check.same("nothing to repair", room.repair(0), 0);
    room.state(0, 0, true, false);
    room.state(1, 0, true, false);
    room.state(2, 0, true, false);
    Check.same("all alike", room.clashes(0), 0);
    Check.same("nothing to repair in alike ones", room.repair(0), 0);
    room.state(3, 0, false, false);
    Check.same("three against one", room.clashes(0), 3);
    Check.same("strike the one", room.repair(0), 1);
    room.state(0, 1, false, false);
    Check.same("another fact is by itself", room.clashes(1), 0);
    Check.same("and counts not here", room.clashes(0), 3);
    room.state(0, 0, false, false);
    Check.same("three against two", room.clashes(0), 6);
    Check.same("strike two", room.repair(0), 2);
    room.setCut(1, true);
    room.setCut(2, true);
    Check.same("one against two", room.clashes(0), 2);
    Check.same("strike the other one", room.repair(0), 1);
    Check.fails("clashes: fact -1", INDEX, () -> room.clashes(-1));
    Check.fails("clashes: fact 2", INDEX, () -> room.clashes(2));
    Check.fails("repair: fact -1", INDEX, () -> room.repair(-1));
    Check.fails("repair: fact 2", INDEX, () -> room.repair(2));
  }

  private static void past() {
    Writersroom room = Rooms.with(0, 2, 4);
    room.state(2, 0, true, false);
    room.state(2, 0, false, true);
    Check.same("the smaller number in a scene is ahead", room.clashes(0), 0);
    room.state(2, 0, true, false);
    Check.same("the greater one is behind", room.clashes(0), 1);
    room.state(1, 0, true, false);
    room.state(1, 1, true, false);
    Check.same("those of scenes ahead are taken away", room.clashes(0), 1);
    Check.same("another fact stays", room.isSo(1), true);
    room.state(3, 0, true, true);
    Check.same("a later one about the past", room.clashes(0), 0);
    room.state(0, 0, false, true);
    Check.same("an earlier one about the past", room.repair(0), 0);
    room.setCut(3, true);
    Check.same("the later one is cut", room.clashes(0), 1);
    room.move(1, 0, 30);
    Check.same("one is moved behind", room.clashes(0), 2);
    Check.same("strike the one about the past", room.repair(0), 1);
  }

  private static void isSo() {
    Writersroom room = Rooms.with(0, 2, 3);
    Check.fails("no statement", NONE, () -> room.isSo(0));
    room.state(1, 0, false, false);
    Check.same("the only one", room.isSo(0), false);
    room.state(0, 0, true, false);
    Check.same("the last one by the order", room.isSo(0), false);
    room.state(1, 0, true, false);
    Check.same("the last one by numbers", room.isSo(0), true);
    room.setCut(1, true);
    room.state(2, 0, false, true);
    Check.same("one about the past", room.isSo(0), false);
    Check.fails("none on the other fact", NONE, () -> room.isSo(1));
    room.setCut(0, true);
    room.setCut(2, true);
    Check.fails("all in cut ones", NONE, () -> room.isSo(0));
    Check.fails("fact -1", INDEX, () -> room.isSo(-1));
    Check.fails("fact 2", INDEX, () -> room.isSo(2));
  }

  private static void remembers() {
    Writersroom room = Rooms.with(0, 1, 0);
    Rooms.scene(room, 2, 0);
    Rooms.scene(room, 6, 0);
    Rooms.scene(room, 6, 1);
    room.tell(0, 0);
    room.tell(1, 0);
    room.tell(2, 0);
    boolean[] weekly = {false, false, false, true, false, false, false, true};
    boolean[] binge = {false, false, false, true, true, true, false, true};
    for (int episode = 0; episode < 8; episode++) {
      Check.same("weekly in " + episode, room.remembers(0, episode, true), weekly[episode]);
      Check.same("binge in " + episode, room.remembers(0, episode, false), binge[episode]);
    }
    room.setCut(1, true);
    Check.same("told in another one", room.remembers(0, 7, true), true);
    room.setCut(2, true);
    Check.same("told in cut ones", room.remembers(0, 7, true), false);
  }

  private static void remembersRefused() {
    Writersroom room = Rooms.with(0, 1, 0);
    Check.fails("fact -1", INDEX, () -> room.remembers(-1, 0, true));
    Check.fails("fact 1", INDEX, () -> room.remembers(1, 8, true));
    Check.fails("episode -1", ARGUMENT, () -> room.remembers(0, -1, true));
    Check.fails("episode 8", ARGUMENT, () -> room.remembers(0, 8, false));
    room.strike(true);
    Rooms.air(room, 8);
    Check.same("asked in a strike", room.remembers(0, 7, true), false);
  }

  private static void recap() {
    Writersroom room = Rooms.with(1, 4, 1);
    Rooms.scene(room, 3, 0);
    Rooms.scene(room, 4, 0);
    for (int fact = 0; fact < 4; fact++) {
      for (int scene = 1; scene < 3; scene++) {
        Rooms.present(room, scene, 0);
        room.act(scene, 0, fact);
      }
    }
    Check.same("nothing was told", room.recap(3, true), 0);
    room.tell(0, 1);
    room.tell(0, 3);
    room.tell(1, 2);
    Check.same("weekly in 3", room.recap(3, true), 2);
    Check.same("binge in 3", room.recap(3, false), 0);
    Check.same("weekly in 4", room.recap(4, true), 2);
    Check.same("binge in 4", room.recap(4, false), 2);
    Check.same("no acts in 5", room.recap(5, true), 0);
    Check.same("first fact", room.recapAt(4, false, 0), 1);
    Check.same("second fact", room.recapAt(4, false, 1), 3);
    Check.fails("no third fact", NONE, () -> room.recapAt(4, false, 2));
    room.tell(0, 0);
    Check.same("with the least fact", room.recap(4, false), 3);
    Check.same("first of three", room.recapAt(4, false, 0), 0);
    Check.same("last of three", room.recapAt(4, false, 2), 3);
    room.present(2, 0, false);
    Check.same("acts of who is not present any more", room.recap(4, false), 3);
    room.setCut(2, true);
    Check.same("in a cut one", room.recap(4, false), 0);
    room.setCut(2, false);
    room.setCut(0, true);
    Check.same("told in a cut one", room.recap(4, false), 0);
  }

  private static void recapOfOneAct() {
    Writersroom room = Rooms.with(1, 2, 1);
    Rooms.scene(room, 2, 0);
    Rooms.present(room, 1, 0);
    room.tell(0, 0);
    room.tell(0, 1);
    Check.same("no act", room.recap(2, true), 0);
    room.act(1, 0, 1);
    Check.same("one act", room.recap(2, true), 1);
    Check.same("on this fact", room.recapAt(2, true, 0), 1);
    room.move(1, 1, 0);
    Check.same("it is remembered", room.recap(1, true), 0);
    Check.same("moved away", room.recap(2, true), 0);
  }

  private static void recapRefused() {
    Writersroom room = Rooms.with(0, 1, 0);
    Check.fails("recap: episode -1", ARGUMENT, () -> room.recap(-1, true));
    Check.fails("recap: episode 8", ARGUMENT, () -> room.recap(8, true));
    Check.same("recap of the first one", room.recap(0, true), 0);
    Check.same("recap of the last one", room.recap(7, false), 0);
    Check.fails("recapAt: episode -1", ARGUMENT, () -> room.recapAt(-1, true, 0));
    Check.fails("recapAt: episode 8", ARGUMENT, () -> room.recapAt(8, false, -1));
    Check.fails("recapAt: index -1", NONE, () -> room.recapAt(0, true, -1));
    Check.fails("recapAt: index 0", NONE, () -> room.recapAt(7, true, 0));
    Check.fails("recapAt: greatest", NONE, () -> room.recapAt(7, true, Integer.MAX_VALUE));
  }
}
