/** Promises 46 to 49. */
public final class FiguresTest {
  public static void main(String[] args) {
    checksum();
    checksumWraps();
    paidShare();
    meanDepth();
    isSound();
    Check.end();
  }

  private static void checksum() {
    Writersroom room = Rooms.with(3, 0, 0);
    Check.same("no scenes", room.checksum(), 0L);
    Rooms.scene(room, 0, 1);
    Check.same("scene 0", room.checksum(), 0L);
    Rooms.present(room, 0, 0, 2);
    Check.same("two people", room.checksum(), 14L);
    Rooms.scene(room, 0, 0);
    Check.same("scenes 1 and 0", room.checksum(), 31L + 14);
    room.move(1, 1, 0);
    Check.same("scenes 0 and 1", room.checksum(), 31L * 14 + 1);
    room.setCut(0, true);
    Check.same("one cut", room.checksum(), 1L);
  }

  private static void checksumWraps() {
    Writersroom room = Rooms.with(8, 0, 30);
    long due = 0;
    for (int scene = 0; scene < 30; scene++) {
      Rooms.present(room, scene, 0, 1, 2, 3, 4, 5, 6, 7);
      due = due * 31 + scene + 56;
    }
    Check.same("30 full scenes", room.checksum(), due);
  }

  private static void paidShare() {
    Writersroom room = Rooms.with(0, 0, 3);
    Check.fails("no set-ups", ArithmeticException.class, room::paidShare);
    room.setUp(0);
    Check.same("none is paid", room.paidShare(), 0.0f);
    room.setUp(0);
    room.setUp(1);
    room.pay(0, 1);
    Check.same("a third", room.paidShare(), 1.0f / 3.0f);
    room.pay(2, 0);
    Check.same("not paid by that", room.paidShare(), 1.0f / 3.0f);
    room.setCut(1, true);
    Check.same("its scene cut", room.paidShare(), 0.0f);
    room.pay(1, 2);
    Check.same("one of two", room.paidShare(), 0.5f);
    room.pay(0, 2);
    Check.same("all", room.paidShare(), 1.0f);
    room.setCut(0, true);
    Check.fails("all in cut ones", ArithmeticException.class, room::paidShare);
  }

  private static void meanDepth() {
    Writersroom room = Rooms.with(0, 0, 0);
    Check.fails("no scenes", ArithmeticException.class, room::meanDepth);
    Rooms.scene(room, 0, 0);
    Check.same("one scene", room.meanDepth(), 1.0);
    Rooms.scene(room, 0, 1);
    Rooms.scene(room, 0, 2);
    room.cause(0, 1);
    Check.same("1 2 1", room.meanDepth(), 4.0 / 3.0);
    room.cause(1, 2);
    Check.same("1 2 3", room.meanDepth(), 2.0);
    room.setCut(1, true);
    Check.same("1 1", room.meanDepth(), 1.0);
    room.setCut(0, true);
    room.setCut(2, true);
    Check.fails("all cut", ArithmeticException.class, room::meanDepth);
  }

  private static void isSound() {
    Writersroom room = Rooms.with(1, 1, 0);
    Check.same("new", room.isSound(), true);
    Rooms.scene(room, 3, 3);
    Rooms.scene(room, 3, 3);
    Rooms.scene(room, 0, 0);
    Check.same("three scenes", room.isSound(), true);
    room.move(2, 3, 3);
    room.setCut(1, true);
    room.cause(2, 0);
    Check.same("moved and cut", room.isSound(), true);
    Rooms.air(room, 8);
    room.strike(true);
    Check.same("in a strike", room.isSound(), true);
  }
}
