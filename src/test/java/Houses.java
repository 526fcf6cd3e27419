/** Houses that several tests use. */
final class Houses {
    private Houses() {
    }

    /** A house with so many rooms, a 's' in the text being a safe one. */
    static DoorChase withRooms(String kinds) {
        DoorChase x = new DoorChase();
        for (int i = 0; i < kinds.length(); i++) {
            x.addRoom(kinds.charAt(i) == 's');
        }
        return x;
    }

    /** Rooms in a row, each joined to the next by a door that is always open. */
    static DoorChase row(String kinds) {
        DoorChase x = withRooms(kinds);
        for (int room = 0; room + 1 < kinds.length(); room++) {
            x.addDoor(room, room + 1, 1, 0);
        }
        return x;
    }

    /** Rooms in a ring; the last door joins the last room and the first. */
    static DoorChase ring(String kinds) {
        DoorChase x = row(kinds);
        x.addDoor(kinds.length() - 1, 0, 1, 0);
        return x;
    }

    /** Two rooms and one door. */
    static DoorChase pair(int period, int rest) {
        DoorChase x = withRooms("..");
        x.addDoor(0, 1, period, rest);
        return x;
    }

    /** A house in which turns pass: the cat stays in the room 0, the mouse in the safe room 1. */
    static void passTurn(DoorChase x) {
        x.go(x.isCatsTurn() ? x.catIn() : x.mouseIn());
    }
}
