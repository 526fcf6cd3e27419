/** Promises 1 to 37: long runs of calls, right and wrong ones, each answered as the model answers it. */
final class ModelTest {
    private static final int RUNS = 240;
    private static final int CALLS = 90;
    // The calls with how many arguments they take; what is said often is called often.
    private static final String[] WITHOUT = {"turn", "rooms", "doors", "isOn", "isCaught", "isCatsTurn", "catIn",
        "mouseIn", "eaten", "turnsToCatch", "safeNow", "bestGo", "pairsCaught", "longestChase", "bestDoorToLock",
        "meanTurns", "digest"};
    private static final String[] WITH_ROOM = {"isSafe", "cheeseIn", "doorsOf", "catArrives", "mouseArrives"};
    private static final String[] WITH_DOOR = {"isLocked", "isOpen", "turnsUntilOpen", "turnLock"};
    private static final String[] WITH_ROOMS = {"doorBetween", "isWayOpen", "distance", "turnsFrom", "begin"};

    private static long seed;

    private ModelTest() {
    }

    public static void main(String[] args) {
        for (int run = 1; run <= RUNS; run++) {
            seed = run;
            oneRun(run);
        }
        Due.end("ModelTest");
    }

    private static void oneRun(int run) {
        DoorChase x = new DoorChase();
        Model model = new Model();
        StringBuilder told = new StringBuilder("run " + run + ": ");
        boolean isFull = run % 8 == 0;
        int rooms = isFull ? 8 : 2 + number(7);
        int safeOnes = number(4);
        for (int i = 0; i < rooms; i++) {
            same(told, x, model, "addRoom", number(10) < safeOnes ? 1 : 0);
        }
        furnish(told, x, model, rooms);
        if (isFull) {
            fill(told, x, model);
        }
        for (int call = 0; call < CALLS; call++) {
            anyCall(told, x, model, rooms);
        }
        same(told, x, model, "digest");
    }

    // Rows and trees, in which mice are caught, with a few doors more; or doors at random.
    private static void furnish(StringBuilder told, DoorChase x, Model model, int rooms) {
        int plainDoors = number(11);
        int more = number(4);
        for (int room = 1; room < rooms; room++) {
            addDoor(told, x, model, number(3) == 0 ? number(room) : room - 1, room, plainDoors);
        }
        for (int i = 0; i < more; i++) {
            addDoor(told, x, model, number(rooms), number(rooms), plainDoors);
        }
    }

    // All the doors that there can be; but most of those that come last are locked.
    private static void fill(StringBuilder told, DoorChase x, Model model) {
        while (model.doors() < 14) {
            addDoor(told, x, model, number(8), number(8), 5);
        }
        for (int door = 8; door < 14; door++) {
            if (number(6) > 0) {
                same(told, x, model, "turnLock", door);
            }
        }
    }

    private static void addDoor(StringBuilder told, DoorChase x, Model model, int one, int other, int plainDoors) {
        int period = number(10) < plainDoors ? 1 : 1 + number(4);
        same(told, x, model, "addDoor", one, other, period, number(period));
    }

    private static void anyCall(StringBuilder told, DoorChase x, Model model, int rooms) {
        switch (number(14)) {
            case 0 -> same(told, x, model, "begin", number(rooms), number(rooms));
            case 1, 2 -> same(told, x, model, "go", number(4) == 0 ? room(rooms) : Math.max(0, model.bestGo()));
            case 3 -> same(told, x, model, "go", room(rooms));
            case 4 -> same(told, x, model, "play", number(6) == 0 ? number(70) - 4 : 1 + number(5));
            case 5 -> same(told, x, model, "putCheese", room(rooms), number(12) - 1);
            case 6 -> same(told, x, model, "addDoor", room(rooms), room(rooms), number(6), number(6) - 1);
            case 7 -> same(told, x, model, WITH_ROOM[number(WITH_ROOM.length)], room(rooms));
            case 8 -> same(told, x, model, WITH_DOOR[number(WITH_DOOR.length)], number(16) - 1);
            case 9, 10 -> same(told, x, model, WITH_ROOMS[number(WITH_ROOMS.length)], room(rooms), room(rooms));
            case 11 -> same(told, x, model, number(6) == 0 ? "addRoom" : "digest", new int[0]);
            default -> same(told, x, model, WITHOUT[number(WITHOUT.length)]);
        }
    }

    private static void same(StringBuilder told, DoorChase x, Model model, String name, int... arguments) {
        int[] given = name.equals("addRoom") && arguments.length == 0 ? new int[] {number(2)} : arguments;
        told.append(name).append(java.util.Arrays.toString(given)).append(' ');
        Due.is(told.toString(), Calls.answer(x, name, given), Calls.answer(model, name, given));
    }

    // Mostly a room that there is.
    private static int room(int rooms) {
        return number(12) == 0 ? number(12) - 2 : number(rooms);
    }

    // A row of numbers that is the same each time.
    private static int number(int below) {
        seed = seed * 6364136223846793005L + 1442695040888963407L;
        return (int) ((seed >>> 33) % below);
    }
}
