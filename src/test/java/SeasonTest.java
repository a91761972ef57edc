/** Promises 1 to 10. */
public final class SeasonTest {
  private static final Class<IndexOutOfBoundsException> INDEX = IndexOutOfBoundsException.class;
  private static final Class<IllegalArgumentException> ARGUMENT = IllegalArgumentException.class;
  private static final Class<IllegalStateException> STATE = IllegalStateException.class;

  public static void main(String[] args) {
    newObject();
    person();
    fact();
    scene();
    sceneRanges();
    move();
    moveRefused();
    setCut();
    sceneAt();
    air();
    strike();
    goesBack();
    Check.end();
  }

  private static void newObject() {
    Writersroom room = new Writersroom();
    Check.fails("new: no scene", INDEX, () -> room.sceneAt(0));
    Check.fails("new: no scene to move", INDEX, () -> room.move(0, 0, 0));
    Check.fails("new: no fact", INDEX, () -> room.knowers(0));
    Check.fails("new: no person", INDEX, () -> room.leaving(0, 0));
    Check.same("new: checksum", room.checksum(), 0L);
    Check.same("new: no strike", room.strike(false), false);
    Check.same("new: nothing aired", room.air(), 0);
  }

  private static void person() {
    Writersroom room = new Writersroom();
    for (int i = 0; i < 8; i++) {
      Check.same("person " + i, room.person(i % 2 == 0), i);
    }
    Check.fails("a ninth person", STATE, () -> room.person(false));
    Check.same("promise to the last person", room.promise(7, 0), -1);
    Check.fails("promise to the refused person", INDEX, () -> room.promise(8, 0));
    Writersroom striking = new Writersroom();
    striking.strike(true);
    Check.fails("person in a strike", STATE, () -> striking.person(true));
    striking.strike(false);
    Check.same("person behind a strike", striking.person(true), 0);
  }

  private static void fact() {
    Writersroom room = new Writersroom();
    for (int i = 0; i < 24; i++) {
      Check.same("fact " + i, room.fact(), i);
    }
    Check.fails("a 25th fact", STATE, room::fact);
    Check.same("the last fact", room.knowers(23), 0);
    Check.fails("the refused fact", INDEX, () -> room.knowers(24));
    Writersroom striking = new Writersroom();
    striking.strike(true);
    Check.fails("fact in a strike", STATE, striking::fact);
    striking.strike(false);
    Check.same("fact behind a strike", striking.fact(), 0);
  }

  private static void scene() {
    Writersroom room = new Writersroom();
    for (int i = 0; i < 30; i++) {
      Check.same("scene " + i, room.scene(7 - i % 8, 59 - i, 0, 0, 0), i);
    }
    Check.fails("a 31st scene", STATE, () -> room.scene(0, 0, 0, 0, 0));
    Check.same("order", Rooms.order(room),
        "23 15 7 22 14 6 29 21 13 5 28 20 12 4 27 19 11 3 26 18 10 2 25 17 9 1 24 16 8 0");
    Writersroom aired = new Writersroom();
    aired.air();
    Check.fails("scene in what aired", STATE, () -> aired.scene(0, 0, 0, 0, 0));
    Check.same("scene in the next one", aired.scene(1, 0, 0, 0, 0), 0);
    aired.strike(true);
    Check.fails("scene in a strike", STATE, () -> aired.scene(1, 0, 0, 0, 0));
    Check.fails("range ahead of strike", ARGUMENT, () -> aired.scene(8, 0, 0, 0, 0));
    Check.same("one scene", Rooms.order(aired), "0");
  }

  private static void sceneRanges() {
    Writersroom room = new Writersroom();
    int[] most = {7, 59, 999, 9, 5};
    for (int which = 0; which < most.length; which++) {
      int[] below = new int[5];
      int[] above = new int[5];
      below[which] = -1;
      above[which] = most[which] + 1;
      Check.fails("scene: -1 at " + which, ARGUMENT, () -> add(room, below));
      Check.fails("scene: too great at " + which, ARGUMENT, () -> add(room, above));
      above[which] = Integer.MAX_VALUE;
      Check.fails("scene: greatest at " + which, ARGUMENT, () -> add(room, above));
      below[which] = Integer.MIN_VALUE;
      Check.fails("scene: least at " + which, ARGUMENT, () -> add(room, below));
    }
    Check.same("least of each", add(room, new int[5]), 0);
    Check.same("greatest of each", add(room, most), 1);
  }

  private static int add(Writersroom room, int[] by) {
    return room.scene(by[0], by[1], by[2], by[3], by[4]);
  }

  private static void move() {
    Writersroom room = Rooms.with(0, 0, 4);
    Check.same("move to the end", room.move(0, 7, 59), 3);
    Check.same("order then", Rooms.order(room), "1 2 3 0");
    Check.same("move to the begin", room.move(3, 0, 0), 0);
    Check.same("by numbers at one minute", room.move(0, 0, 0), 0);
    Check.same("order by numbers", Rooms.order(room), "0 3 1 2");
    Check.same("move to where it is", room.move(1, 0, 1), 2);
    Check.same("episodes ahead of minutes", room.move(0, 1, 0), 3);
    room.setCut(2, true);
    Check.same("place without the cut one", room.move(0, 2, 0), 2);
    Check.same("move a cut one", room.move(2, 0, 0), -1);
    room.setCut(2, false);
    Check.same("it moved", Rooms.order(room), "2 3 1 0");
  }

  private static void moveRefused() {
    Writersroom room = Rooms.with(0, 0, 2);
    room.move(1, 3, 0);
    Check.fails("no scene -1", INDEX, () -> room.move(-1, 0, 0));
    Check.fails("no scene 2", INDEX, () -> room.move(2, 8, 0));
    Check.fails("episode -1", ARGUMENT, () -> room.move(0, -1, 0));
    Check.fails("episode 8", ARGUMENT, () -> room.move(0, 8, 0));
    Check.fails("minute -1", ARGUMENT, () -> room.move(0, 0, -1));
    Check.fails("minute 60", ARGUMENT, () -> room.move(0, 0, 60));
    room.air();
    Check.fails("out of what aired", STATE, () -> room.move(0, 1, 0));
    Check.fails("into what aired", STATE, () -> room.move(1, 0, 0));
    Check.fails("range ahead of aired", ARGUMENT, () -> room.move(0, 0, 60));
    Check.same("into the next one", room.move(1, 1, 0), 1);
    room.strike(true);
    Check.fails("in a strike", STATE, () -> room.move(1, 2, 0));
    Check.fails("scene ahead of strike", INDEX, () -> room.move(2, 2, 0));
    Check.fails("range ahead of strike", ARGUMENT, () -> room.move(1, 2, 60));
    Check.same("nothing moved", Rooms.order(room), "0 1");
  }

  private static void setCut() {
    Writersroom room = Rooms.with(1, 1, 3);
    Check.same("cut", room.setCut(1, true), false);
    Check.same("cut again", room.setCut(1, true), true);
    Check.same("order without it", Rooms.order(room), "0 2");
    Rooms.present(room, 1, 0);
    Check.same("told of a cut one", room.tell(1, 0), 0);
    Check.same("nobody learns there", room.knowers(0), 0);
    Check.same("taken back", room.setCut(1, false), true);
    Check.same("taken back again", room.setCut(1, false), false);
    Check.same("order with it", Rooms.order(room), "0 1 2");
    Check.same("what was told holds", room.since(0, 0), 1);
    Check.fails("no scene -1", INDEX, () -> room.setCut(-1, true));
    Check.fails("no scene 3", INDEX, () -> room.setCut(3, true));
    room.move(2, 1, 0);
    room.air();
    Check.fails("cut what aired", STATE, () -> room.setCut(0, true));
    Check.same("cut what did not", room.setCut(2, true), false);
    room.strike(true);
    Check.fails("cut in a strike", STATE, () -> room.setCut(2, false));
    Check.fails("scene ahead of strike", INDEX, () -> room.setCut(3, false));
    Check.same("nothing else was cut", Rooms.order(room), "0 1");
  }

  private static void sceneAt() {
    Writersroom room = Rooms.with(0, 0, 3);
    room.move(0, 0, 30);
    Check.same("first place", room.sceneAt(0), 1);
    Check.same("last place", room.sceneAt(2), 0);
    Check.fails("place -1", INDEX, () -> room.sceneAt(-1));
    Check.fails("place 3", INDEX, () -> room.sceneAt(3));
    room.setCut(1, true);
    Check.same("first place without the cut one", room.sceneAt(0), 2);
    Check.fails("place 2 without the cut one", INDEX, () -> room.sceneAt(2));
  }

  private static void air() {
    Writersroom room = new Writersroom();
    room.strike(true);
    for (int i = 0; i < 8; i++) {
      Check.same("air " + i, room.air(), i);
    }
    Check.fails("a ninth episode", STATE, room::air);
    room.strike(false);
    Check.fails("nothing is left to write", STATE, () -> room.scene(7, 0, 0, 0, 0));
  }

  private static void strike() {
    Writersroom room = new Writersroom();
    Check.same("ends none", room.strike(false), false);
    Check.same("begins", room.strike(true), false);
    Check.same("begins again", room.strike(true), true);
    Check.same("ends", room.strike(false), true);
    Check.same("ended", room.strike(false), false);
  }

  private static void goesBack() {
    Writersroom room = new Writersroom();
    Check.same("no scenes", room.goesBack(), 0);
    room.scene(0, 0, 5, 0, 0);
    Check.same("one scene", room.goesBack(), 0);
    room.scene(0, 1, 4, 0, 0);
    Check.same("two scenes, a day back", room.goesBack(), 1);
    room.setCut(1, true);
    room.scene(0, 1, 5, 0, 0);
    Check.same("the same day", room.goesBack(), 0);
    room.scene(0, 2, 4, 0, 0);
    Check.same("a day back", room.goesBack(), 1);
    room.scene(1, 0, 999, 0, 0);
    room.scene(2, 0, 0, 0, 0);
    Check.same("back once more", room.goesBack(), 2);
    room.move(4, 7, 0);
    Check.same("by the order", room.goesBack(), 2);
    room.setCut(3, true);
    Check.same("5 5 0 999", room.goesBack(), 1);
    room.setCut(5, true);
    Check.same("5 5 999", room.goesBack(), 0);
  }
}
