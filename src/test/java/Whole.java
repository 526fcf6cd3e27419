import java.util.Arrays;

/**
 * All that an object answers to what it may be asked, as one text: two alike answer alike. No call is
 * wrong in it but those of a chase when none is on, and those of a cat in a safe room.
 */
final class Whole {
    private static final String[] PLAIN = {"turn", "rooms", "doors", "isOn", "isCaught", "isCatsTurn", "catIn",
        "mouseIn", "eaten", "turnsToCatch", "safeNow", "bestGo", "pairsCaught", "longestChase", "bestDoorToLock",
        "meanTurns"};
    private static final String[] OF_ROOM = {"isSafe", "cheeseIn", "doorsOf", "catArrives", "mouseArrives"};
    private static final String[] OF_DOOR = {"isLocked", "isOpen", "turnsUntilOpen"};
    private static final String[] OF_ROOMS = {"doorBetween", "isWayOpen", "distance", "turnsFrom"};

    private Whole() {
    }

    // At most 16 + 40 + 42 + 256 calls, and as many as 64 + 16 to tell what is due: an object has 512.
    static String of(DoorChase x) {
        StringBuilder all = new StringBuilder();
        for (String name : PLAIN) {
            tell(all, x, name);
        }
        int rooms = x.rooms();
        int doors = x.doors();
        for (int room = 0; room < rooms; room++) {
            for (String name : OF_ROOM) {
                tell(all, x, name, room);
            }
            for (int other = 0; other < rooms; other++) {
                for (String name : OF_ROOMS) {
                    tell(all, x, name, room, other);
                }
            }
        }
        for (int door = 0; door < doors; door++) {
            for (String name : OF_DOOR) {
                tell(all, x, name, door);
            }
        }
        return all.toString();
    }

    private static void tell(StringBuilder all, DoorChase x, String name, int... arguments) {
        String answer = Calls.answer(x, name, arguments);
        if (answer.startsWith("throws.")) {
            Due.is(name + Arrays.toString(arguments) + " refused", answer, dueRefusal(x, name, arguments));
        }
        all.append(name).append(Arrays.toString(arguments)).append('=').append(answer).append(' ');
    }

    private static String dueRefusal(DoorChase x, String name, int[] arguments) {
        if (name.endsWith("Arrives") && !x.isOn()) {
            return "throws.IllegalStateException";
        }
        if (name.equals("turnsFrom") && x.isSafe(arguments[0])) {
            return "throws.IllegalArgumentException";
        }
        return "nothing";
    }
}
