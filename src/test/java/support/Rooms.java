/** Makes rooms that tests begin with. */
final class Rooms {
  private Rooms() {}

  /** A room with so many grown people and facts, and scenes in episode 0, at minutes 0, 1, 2 .. */
  static Writersroom with(int people, int facts, int scenes) {
    Writersroom room = new Writersroom();
    for (int i = 0; i < people; i++) {
      room.person(false);
    }
    for (int i = 0; i < facts; i++) {
      room.fact();
    }
    for (int i = 0; i < scenes; i++) {
      room.scene(0, i, 0, 0, 0);
    }
    return room;
  }

  /** Adds a scene by its time alone. */
  static int scene(Writersroom room, int episode, int minute) {
    return room.scene(episode, minute, 0, 0, 0);
  }

  static void present(Writersroom room, int scene, int... people) {
    for (int person : people) {
      room.present(scene, person, true);
    }
  }

  static void air(Writersroom room, int episodes) {
    for (int i = 0; i < episodes; i++) {
      room.air();
    }
  }

  /** The numbers of the scenes by the order, as a text. */
  static String order(Writersroom room) {
    StringBuilder all = new StringBuilder();
    for (int place = 0; place < 30; place++) {
      Object scene = Calls.answer(room, "sceneAt " + place);
      if (scene instanceof Integer) {
        all.append(all.length() == 0 ? "" : " ").append(scene);
      }
    }
    return all.toString();
  }
}
