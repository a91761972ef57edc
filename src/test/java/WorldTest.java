import java.util.NoSuchElementException;

/** Promises 11 to 18. */
public final class WorldTest {
  private static final Class<IndexOutOfBoundsException> INDEX = IndexOutOfBoundsException.class;
  private static final Class<IllegalStateException> STATE = IllegalStateException.class;
  private static final Class<UnsupportedOperationException> UNSUPPORTED =
      UnsupportedOperationException.class;

  public static void main(String[] args) {
    present();
    tell();
    keep();
    act();
    actLimit();
    knows();
    since();
    unknown();
    knowers();
    refusedOfWhatAired();
    refusedInStrike();
    Check.end();
  }

  private static void present() {
    Writersroom room = Rooms.with(8, 1, 2);
    Check.same("was not present", room.present(0, 7, true), false);
    Check.same("was present", room.present(0, 7, true), true);
    Check.same("not in another scene", room.present(1, 7, false), false);
    Check.same("not another person", room.present(0, 6, false), false);
    Check.same("still present", room.present(0, 7, false), true);
    Check.same("not any more", room.present(0, 7, false), false);
    Check.fails("scene -1", INDEX, () -> room.present(-1, 0, true));
    Check.fails("scene 2", INDEX, () -> room.present(2, 0, true));
    Check.fails("person -1", INDEX, () -> room.present(0, -1, true));
    Check.fails("person 8", INDEX, () -> room.present(0, 8, true));
    room.tell(0, 0);
    room.present(0, 3, true);
    Check.same("who is present now learns what was told", room.since(3, 0), 0);
  }

  private static void tell() {
    Writersroom room = Rooms.with(3, 2, 3);
    Rooms.present(room, 0, 0);
    Rooms.present(room, 1, 0, 1, 2);
    Check.same("nobody there", room.tell(2, 0), 0);
    Check.same("three learn it", room.tell(1, 0), 3);
    Check.same("once more", room.tell(1, 0), 3);
    Check.same("one learns it ahead", room.tell(0, 0), 1);
    Check.same("the one knew it ahead", room.tell(1, 0), 2);
    room.keep(1, 2, 0, true);
    Check.same("kept from one", room.tell(1, 0), 1);
    Check.same("another fact", room.tell(1, 1), 3);
    room.setCut(0, true);
    Check.same("the one ahead is cut", room.tell(1, 0), 2);
    Check.same("in a cut one", room.tell(0, 0), 0);
    Check.fails("scene -1", INDEX, () -> room.tell(-1, 0));
    Check.fails("scene 3", INDEX, () -> room.tell(3, 0));
    Check.fails("fact -1", INDEX, () -> room.tell(0, -1));
    Check.fails("fact 2", INDEX, () -> room.tell(0, 2));
  }

  private static void keep() {
    Writersroom room = Rooms.with(2, 2, 2);
    Rooms.present(room, 0, 0, 1);
    Rooms.present(room, 1, 0);
    room.tell(0, 0);
    room.tell(0, 1);
    room.tell(1, 0);
    Check.same("was not kept", room.keep(0, 0, 0, true), false);
    Check.same("was kept", room.keep(0, 0, 0, true), true);
    Check.same("learns it in the other scene", room.since(0, 0), 1);
    Check.same("the other person learns it", room.since(1, 0), 0);
    Check.same("the other fact is learned", room.since(0, 1), 0);
    Check.same("not kept in the other scene", room.keep(1, 0, 0, false), false);
    Check.same("not kept from the other person", room.keep(0, 1, 0, false), false);
    Check.same("the other fact is not kept", room.keep(0, 0, 1, false), false);
    Check.same("not any more", room.keep(0, 0, 0, false), true);
    Check.same("learns it there again", room.since(0, 0), 0);
    Check.fails("scene -1", INDEX, () -> room.keep(-1, 0, 0, true));
    Check.fails("scene 2", INDEX, () -> room.keep(2, 0, 0, true));
    Check.fails("person -1", INDEX, () -> room.keep(0, -1, 0, true));
    Check.fails("person 2", INDEX, () -> room.keep(0, 2, 0, true));
    Check.fails("fact -1", INDEX, () -> room.keep(0, 0, -1, true));
    Check.fails("fact 2", INDEX, () -> room.keep(0, 0, 2, true));
  }

  private static void act() {
    Writersroom room = Rooms.with(2, 2, 3);
    Rooms.present(room, 0, 0);
    Rooms.present(room, 1, 0);
    Rooms.present(room, 2, 0);
    room.tell(1, 0);
    Check.same("ahead of knowing", room.act(0, 0, 0), false);
    Check.same("since this scene", room.act(1, 0, 0), true);
    Check.same("behind it", room.act(2, 0, 0), true);
    Check.same("another fact", room.act(2, 0, 1), false);
    room.setCut(2, true);
    Check.same("in a cut one", room.act(2, 0, 0), false);
    Check.fails("not present", UNSUPPORTED, () -> room.act(0, 1, 0));
    Check.fails("scene -1", INDEX, () -> room.act(-1, 0, 0));
    Check.fails("scene 3", INDEX, () -> room.act(3, 0, 0));
    Check.fails("person -1", INDEX, () -> room.act(0, -1, 0));
    Check.fails("person 2", INDEX, () -> room.act(0, 2, 0));
    Check.fails("fact -1", INDEX, () -> room.act(0, 0, -1));
    Check.fails("fact 2", INDEX, () -> room.act(0, 0, 2));
    Check.same("none of the refused was kept", room.unknown(), 1);
  }

  private static void actLimit() {
    Writersroom room = Rooms.with(1, 1, 1);
    Rooms.present(room, 0, 0);
    for (int i = 0; i < 60; i++) {
      Check.same("act " + i, room.act(0, 0, 0), false);
    }
    Check.fails("a 61st act", UNSUPPORTED, () -> room.act(0, 0, 0));
    Check.same("alike ones are kept each", room.unknown(), 60);
  }

  private static void knows() {
    Writersroom room = Rooms.with(2, 1, 3);
    Rooms.present(room, 1, 0);
    room.tell(1, 0);
    Check.same("ahead", room.knows(0, 0, 0), false);
    Check.same("there", room.knows(0, 0, 1), true);
    Check.same("behind, not present", room.knows(0, 0, 2), true);
    Check.same("who was not there", room.knows(1, 0, 2), false);
    room.setCut(2, true);
    Check.same("in a cut one", room.knows(0, 0, 2), false);
    room.move(0, 7, 0);
    Check.same("by the order", room.knows(0, 0, 0), true);
    room.setCut(1, true);
    Check.same("told in a cut one", room.knows(0, 0, 0), false);
    Check.fails("person -1", INDEX, () -> room.knows(-1, 0, 0));
    Check.fails("person 2", INDEX, () -> room.knows(2, 0, 0));
    Check.fails("fact -1", INDEX, () -> room.knows(0, -1, 0));
    Check.fails("fact 1", INDEX, () -> room.knows(0, 1, 0));
    Check.fails("scene -1", INDEX, () -> room.knows(0, 0, -1));
    Check.fails("scene 3", INDEX, () -> room.knows(0, 0, 3));
  }

  private static void since() {
    Writersroom room = Rooms.with(2, 1, 3);
    Check.fails("never", NoSuchElementException.class, () -> room.since(0, 0));
    Rooms.present(room, 1, 0);
    Rooms.present(room, 2, 0);
    room.tell(2, 0);
    Check.same("told once", room.since(0, 0), 2);
    room.tell(1, 0);
    Check.same("told ahead of it", room.since(0, 0), 1);
    room.move(1, 5, 0);
    Check.same("moved behind", room.since(0, 0), 2);
    room.setCut(2, true);
    Check.same("the other one cut", room.since(0, 0), 1);
    room.present(1, 0, false);
    Check.fails("not present any more", NoSuchElementException.class, () -> room.since(0, 0));
    Check.fails("person -1", INDEX, () -> room.since(-1, 0));
    Check.fails("person 2", INDEX, () -> room.since(2, 0));
    Check.fails("fact -1", INDEX, () -> room.since(0, -1));
    Check.fails("fact 1", INDEX, () -> room.since(0, 1));
  }

  private static void unknown() {
    Writersroom room = Rooms.with(2, 1, 3);
    Check.same("no acts", room.unknown(), 0);
    for (int scene = 0; scene < 3; scene++) {
      Rooms.present(room, scene, 0);
      room.act(scene, 0, 0);
    }
    Check.same("never told", room.unknown(), 3);
    room.tell(1, 0);
    Check.same("told in the second", room.unknown(), 1);
    room.present(2, 0, false);
    Check.same("not present any more, though knowing it", room.unknown(), 2);
    room.setCut(0, true);
    Check.same("one cut", room.unknown(), 1);
    room.move(1, 4, 0);
    Check.same("told where it acts", room.unknown(), 1);
    room.keep(1, 0, 0, true);
    Check.same("kept", room.unknown(), 2);
  }

  private static void knowers() {
    Writersroom room = Rooms.with(3, 2, 2);
    Check.same("nobody", room.knowers(0), 0);
    Rooms.present(room, 0, 0, 1);
    Rooms.present(room, 1, 1, 2);
    room.tell(0, 0);
    Check.same("two", room.knowers(0), 2);
    room.tell(1, 0);
    Check.same("three, one of them twice", room.knowers(0), 3);
    Check.same("another fact", room.knowers(1), 0);
    room.setCut(0, true);
    Check.same("one cut", room.knowers(0), 2);
    room.keep(1, 2, 0, true);
    Check.same("kept from one", room.knowers(0), 1);
    Check.fails("fact -1", INDEX, () -> room.knowers(-1));
    Check.fails("fact 2", INDEX, () -> room.knowers(2));
  }

  private static void refusedOfWhatAired() {
    Writersroom room = Rooms.with(1, 1, 1);
    Rooms.scene(room, 1, 0);
    Rooms.present(room, 0, 0);
    room.air();
    Check.fails("present", STATE, () -> room.present(0, 0, false));
    Check.fails("tell", STATE, () -> room.tell(0, 0));
    Check.fails("keep", STATE, () -> room.keep(0, 0, 0, true));
    Check.fails("act", STATE, () -> room.act(0, 0, 0));
    Check.fails("index ahead of aired: present", INDEX, () -> room.present(0, 1, false));
    Check.fails("index ahead of aired: tell", INDEX, () -> room.tell(0, 1));
    Check.fails("index ahead of aired: keep", INDEX, () -> room.keep(0, 0, 1, false));
    Check.fails("index ahead of aired: act", INDEX, () -> room.act(0, 0, 1));
    Check.same("present in the next one", room.present(1, 0, true), false);
    Check.same("told in the next one", room.tell(1, 0), 1);
    Check.same("not told in what aired", room.since(0, 0), 1);
    Check.same("acts in the next one", room.act(1, 0, 0), true);
  }

  private static void refusedInStrike() {
    Writersroom room = Rooms.with(2, 1, 1);
    Rooms.present(room, 0, 0);
    room.tell(0, 0);
    room.strike(true);
    Check.fails("present", STATE, () -> room.present(0, 0, false));
    Check.fails("tell", STATE, () -> room.tell(0, 0));
    Check.fails("keep", STATE, () -> room.keep(0, 0, 0, true));
    Check.fails("act", STATE, () -> room.act(0, 0, 0));
    Check.fails("strike ahead of not present: act", STATE, () -> room.act(0, 1, 0));
    Check.fails("index ahead of strike: present", INDEX, () -> room.present(0, 2, false));
    Check.fails("index ahead of strike: act", INDEX, () -> room.act(0, 2, 0));
    Check.same("asked in a strike", room.since(0, 0), 0);
    room.strike(false);
    Check.same("nothing was told in it", room.unknown(), 0);
    Check.same("still present", room.present(0, 0, true), true);
    Check.same("not kept", room.keep(0, 0, 0, false), false);
  }
}
