/** Terms: an object is used for at most 512 calls, and the last of them is answered like any other. */
final class LastCallTest {
    private static final int MOST_CALLS = 512;

    private LastCallTest() {
    }

    public static void main(String[] args) {
        for (int phase = 1; phase <= 12; phase++) {
            lateTurns(phase);
        }
        lastCallThatChanges();
        callsThatAreRefused();
        callsThatComeToNothing();
        Due.end("LastCallTest");
    }

    // A mouse that is never caught in a ring; its doors are shut in different turns.
    private static DoorChase endlessHouse() {
        DoorChase x = Houses.withRooms(".....s");
        x.addDoor(0, 1, 1, 0);
        x.addDoor(1, 2, 2, 0);
        x.addDoor(2, 3, 3, 1);
        x.addDoor(3, 4, 4, 3);
        x.addDoor(4, 0, 1, 0);
        x.addDoor(2, 5, 4, 2);
        return x;
    }

    // 12 calls make the house, one begins; the mouse stays with 480 plays of 60 turns, and one of 1 to 12.
    // Doors are as they were 12 turns ago, so that all is as in a chase that has just begun.
    private static void lateTurns(int phase) {
        DoorChase late = endlessHouse();
        late.begin(0, 5);
        for (int call = 0; call < 480; call++) {
            late.play(60);
        }
        late.play(phase);
        Due.is("the turn behind 28800 and " + phase, late.turn(), 28800 + phase);
        DoorChase soon = endlessHouse();
        soon.begin(late.catIn(), late.mouseIn());
        for (int turn = 0; turn < phase; turn++) {
            Houses.passTurn(soon);
        }
        for (String name : new String[] {"isCatsTurn", "turnsToCatch", "safeNow", "bestGo", "pairsCaught",
            "longestChase", "bestDoorToLock", "meanTurns"}) {
            same(phase, late, soon, name);
        }
        same(phase, late, soon, "catArrives", 3);
        same(phase, late, soon, "mouseArrives", 0);
        for (int door = 1; door < 4; door++) {
            same(phase, late, soon, "turnsUntilOpen", door);
        }
    }

    private static void same(int phase, DoorChase late, DoorChase soon, String name, int... arguments) {
        Due.is(name + " in the turn 28800 and " + phase, Calls.answer(late, name, arguments),
                Calls.answer(soon, name, arguments));
    }

    private static void lastCallThatChanges() {
        DoorChase x = Houses.row("......."); // 13 calls
        for (int call = 13; call < MOST_CALLS - 1; call++) {
            x.rooms();
        }
        Due.is("the eighth room in the last call", x.addRoom(true), 7);
        DoorChase y = Houses.row(".."); // 3 calls
        for (int call = 3; call < MOST_CALLS - 1; call++) {
            y.begin(call % 2, 1 - call % 2);
        }
        Due.is("begun in the last call", y.begin(0, 1), 2);
        DoorChase z = Houses.row("..");
        for (int call = 3; call < MOST_CALLS - 1; call++) {
            z.turnLock(0);
        }
        Due.is("508 turns of a lock, and the last call", z.turnLock(0), true);
    }

    private static void callsThatAreRefused() {
        DoorChase x = Houses.row("..");
        x.begin(0, 1);
        x.go(1);
        for (int call = 5; call < MOST_CALLS - 2; call++) {
            Due.index("call " + call, () -> x.go(2));
        }
        Due.is("caught in the last call but one", x.go(1), true);
        Due.is("the last call", x.turn(), 2);
    }

    // Each chase is over at once; what was eaten and how many turns there were does not add up.
    private static void callsThatComeToNothing() {
        DoorChase x = Houses.row("..");
        for (int call = 3; call < MOST_CALLS - 2; call += 2) {
            x.begin(0, 1);
            Due.is("caught at call " + call, x.go(0), true);
        }
        Due.is("the last call", x.turn(), 1);
    }
}
