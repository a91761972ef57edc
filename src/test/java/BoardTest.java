/** Promises 35 to 37. */
public final class BoardTest {
  private static final Class<IndexOutOfBoundsException> INDEX = IndexOutOfBoundsException.class;
  private static final Class<IllegalArgumentException> ARGUMENT = IllegalArgumentException.class;
  private static final Class<IllegalStateException> STATE = IllegalStateException.class;
  private static final Class<UnsupportedOperationException> UNSUPPORTED =
      UnsupportedOperationException.class;

  public static void main(String[] args) {
    propose();
    proposeRefused();
    vote();
    merge();
    mergeNeedsVotes();
    mergeKeepsCauses();
    mergeGoesOneByOne();
    mergeKeepsCanon();
    mergeRefused();
    Check.end();
  }

  private static void propose() {
    Writersroom room = Rooms.with(0, 0, 1);
    for (int writer = 0; writer < 6; writer++) {
      for (int i = 1; i <= 12; i++) {
        Check.same("move " + i + " by " + writer, room.propose(writer, 0, 7, 59), i);
      }
      int by = writer;
      Check.fails("a 13th move by " + writer, STATE, () -> room.propose(by, 0, 0, 0));
    }
    Check.same("nothing moved yet", room.move(0, 0, 0), 0);
    Check.same("all 12 are done", room.merge(0), 12);
    Check.same("empty then", room.propose(0, 0, 0, 0), 1);
  }

  private static void proposeRefused() {
    Writersroom room = Rooms.with(0, 0, 1);
    Check.fails("scene -1", INDEX, () -> room.propose(0, -1, 0, 0));
    Check.fails("scene 1", INDEX, () -> room.propose(6, 1, 0, 0));
    Check.fails("writer -1", ARGUMENT, () -> room.propose(-1, 0, 0, 0));
    Check.fails("writer 6", ARGUMENT, () -> room.propose(6, 0, 0, 0));
    Check.fails("episode -1", ARGUMENT, () -> room.propose(0, 0, -1, 0));
    Check.fails("episode 8", ARGUMENT, () -> room.propose(0, 0, 8, 0));
    Check.fails("minute -1", ARGUMENT, () -> room.propose(0, 0, 0, -1));
    Check.fails("minute 60", ARGUMENT, () -> room.propose(0, 0, 0, 60));
    room.strike(true);
    Check.fails("in a strike", STATE, () -> room.propose(0, 0, 0, 0));
    Check.fails("range ahead of strike", ARGUMENT, () -> room.propose(0, 0, 0, 60));
    Check.fails("index ahead of strike", INDEX, () -> room.propose(0, 1, 0, 0));
    room.strike(false);
    Check.same("none of these is on it", room.propose(0, 0, 0, 0), 1);
    room.air();
    Check.same("of and to what aired", room.propose(0, 0, 0, 1), 2);
    Check.same("not done then", room.merge(0), 0);
  }

  private static void vote() {
    Writersroom room = Rooms.with(0, 0, 1);
    Check.same("one", room.vote(0, 5, true), 1);
    Check.same("the same one again", room.vote(0, 5, true), 1);
    Check.same("two", room.vote(4, 5, true), 2);
    Check.same("another branch", room.vote(5, 4, true), 1);
    Check.same("taken back", room.vote(0, 5, false), 1);
    Check.same("taken back again", room.vote(0, 5, false), 1);
    for (int voter = 1; voter < 6; voter++) {
      Check.same("for the showrunner " + voter, room.vote(voter, 0, true), voter);
    }
    Check.fails("voter -1", ARGUMENT, () -> room.vote(-1, 0, true));
    Check.fails("voter 6", ARGUMENT, () -> room.vote(6, 0, true));
    Check.fails("writer -1", ARGUMENT, () -> room.vote(0, -1, true));
    Check.fails("writer 6", ARGUMENT, () -> room.vote(0, 6, true));
    Check.fails("for oneself", ARGUMENT, () -> room.vote(5, 5, true));
    room.strike(true);
    Check.fails("in a strike", STATE, () -> room.vote(1, 5, true));
    Check.fails("for oneself in a strike", ARGUMENT, () -> room.vote(1, 1, true));
    room.strike(false);
    Check.same("nothing changed", room.vote(4, 5, true), 1);
  }

  private static void merge() {
    Writersroom room = Rooms.with(0, 0, 3);
    Check.fails("no moves", UNSUPPORTED, () -> room.merge(0));
    room.propose(0, 0, 0, 30);
    room.propose(0, 2, 0, 0);
    room.vote(1, 0, true);
    Check.same("two are done", room.merge(0), 2);
    Check.same("order then", Rooms.order(room), "2 1 0");
    Check.fails("it is empty then", UNSUPPORTED, () -> room.merge(0));
    Check.same("and so are its votes", room.vote(2, 0, true), 1);
    room.propose(0, 2, 0, 0);
    Check.same("a move to where it is", room.merge(0), 1);
    room.propose(0, 1, 7, 0);
    room.setCut(1, true);
    Check.same("a cut scene", room.merge(0), 0);
    room.setCut(1, false);
    Check.same("did not move", Rooms.order(room), "2 1 0");
    Check.fails("and the move is gone", UNSUPPORTED, () -> room.merge(0));
  }

  private static void mergeNeedsVotes() {
    Writersroom room = Rooms.with(0, 0, 2);
    room.propose(3, 0, 5, 0);
    room.vote(0, 3, true);
    room.vote(1, 3, true);
    Check.fails("two votes", UNSUPPORTED, () -> room.merge(3));
    Check.same("not moved", Rooms.order(room), "0 1");
    room.vote(2, 3, true);
    room.vote(1, 3, false);
    Check.fails("one taken back", UNSUPPORTED, () -> room.merge(3));
    Check.same("the votes are kept", room.vote(5, 3, true), 3);
    Check.same("three votes", room.merge(3), 1);
    Check.same("moved", Rooms.order(room), "1 0");
    room.vote(0, 4, true);
    room.vote(1, 4, true);
    room.vote(2, 4, true);
    Check.fails("votes, but no moves", UNSUPPORTED, () -> room.merge(4));
    Check.same("these votes are kept", room.vote(3, 4, true), 4);
    room.propose(3, 0, 0, 0);
    Check.fails("the votes were for what was merged", UNSUPPORTED, () -> room.merge(3));
  }

  private static void mergeKeepsCauses() {
    Writersroom room = Rooms.with(0, 0, 4);
    room.cause(1, 2);
    room.cause(3, 0);
    room.propose(0, 1, 0, 30);
    room.propose(0, 2, 0, 0);
    Check.same("neither side goes past the other", room.merge(0), 0);
    room.propose(0, 3, 7, 0);
    Check.same("a cause that is wrong already", room.merge(0), 1);
    Check.same("order then", Rooms.order(room), "0 1 2 3");
    room.setCut(2, true);
    room.propose(0, 1, 0, 30);
    Check.same("a cause to a cut one", room.merge(0), 0);
    room.setCut(2, false);
    room.setCut(1, true);
    room.propose(0, 2, 0, 0);
    Check.same("a cause from a cut one", room.merge(0), 0);
    room.setCut(1, false);
    room.propose(0, 1, 0, 2);
    Check.same("ahead by its number at one minute", room.merge(0), 1);
    room.propose(0, 3, 0, 0);
    room.propose(0, 0, 1, 0);
    room.propose(0, 0, 0, 0);
    Check.same("put right, it is kept", room.merge(0), 2);
    Check.same("and right", room.wrongCauses(), 0);
  }

  private static void mergeGoesOneByOne() {
    Writersroom room = Rooms.with(0, 0, 2);
    room.cause(0, 1);
    room.propose(0, 0, 2, 0);
    room.propose(0, 1, 3, 0);
    room.propose(0, 0, 2, 0);
    Check.same("what the first could not the last can", room.merge(0), 2);
    Check.same("the cause holds", room.wrongCauses(), 0);
    Check.same("still in order", Rooms.order(room), "0 1");
  }

  private static void mergeKeepsCanon() {
    Writersroom room = Rooms.with(0, 0, 1);
    Rooms.scene(room, 1, 0);
    room.propose(0, 0, 2, 0);
    room.propose(0, 1, 0, 0);
    room.propose(0, 1, 1, 5);
    room.air();
    Check.same("neither of nor to what aired", room.merge(0), 1);
    Check.same("order then", Rooms.order(room), "0 1");
  }

  private static void mergeRefused() {
    Writersroom room = Rooms.with(0, 0, 1);
    room.propose(0, 0, 0, 5);
    Check.fails("writer -1", ARGUMENT, () -> room.merge(-1));
    Check.fails("writer 6", ARGUMENT, () -> room.merge(6));
    room.strike(true);
    Check.fails("in a strike", STATE, () -> room.merge(0));
    Check.fails("strike ahead of votes", STATE, () -> room.merge(1));
    Check.fails("writer ahead of strike", ARGUMENT, () -> room.merge(6));
    room.strike(false);
    Check.same("the move is still there", room.merge(0), 1);
  }
}
