/** Promises 27 to 36: what would be. */
final class OutlookTest {
    private OutlookTest() {
    }

    public static void main(String[] args) {
        catArrives();
        mouseArrives();
        arrivesWrongly();
        turnsToCatch();
        turnsByDoors();
        turnsFrom();
        safeNow();
        bestGoOfMouse();
        bestGoOfCat();
        bestGoOfCatByTheSoonestWay();
        bestGoOfCatThatNeverCatches();
        houseThatChanges();
        pairs();
        pairsWithoutAny();
        bestDoorToLock();
        noDoorToLock();
        fullHouse();
        Due.end("OutlookTest");
    }

    private static void catArrives() {
        DoorChase x = Houses.row("....s");
        x.begin(1, 3);
        Due.is("where it is", x.catArrives(1), 0);
        Due.is("next to it, in the turn 0", x.catArrives(0), 2);
        Due.is("past the mouse's room too", x.catArrives(3), 4);
        Due.is("in a safe room", x.catArrives(4), -1);
        x.go(3);
        Due.is("next to it, in the turn 1", x.catArrives(0), 1);
        Due.is("two doors off, in the turn 1", x.catArrives(3), 3);
        x.turnLock(1);
        Due.is("behind a locked door", x.catArrives(3), -1);
        DoorChase y = Houses.withRooms("...");
        y.addDoor(0, 1, 4, 1);
        y.addDoor(1, 2, 4, 3);
        y.begin(0, 2);
        Due.is("a door that is shut in the turn 1", y.catArrives(1), 4);
        Due.is("then one that is open in the turn 5", y.catArrives(2), 6);
        DoorChase z = Houses.row(".s.");
        z.begin(0, 1);
        Due.is("behind a safe room", z.catArrives(2), -1);
        Due.is("digest is as before", z.digest(), z.digest());
        Due.is("turn is as before", z.turn(), 0);
    }

    private static void mouseArrives() {
        DoorChase x = Houses.row("....s");
        x.begin(1, 3);
        Due.is("where it is", x.mouseArrives(3), 0);
        Due.is("in a safe room", x.mouseArrives(4), 1);
        Due.is("past the cat", x.mouseArrives(0), 5);
        x.go(3);
        Due.is("in a safe room, in the turn 1", x.mouseArrives(4), 2);
        DoorChase y = Houses.row(".s..");
        y.begin(3, 0);
        Due.is("through a safe room", y.mouseArrives(2), 3);
        y.turnLock(2);
        Due.is("behind a locked door", y.mouseArrives(3), -1);
        DoorChase z = Houses.withRooms("..s");
        z.addDoor(1, 2, 2, 0);
        z.begin(0, 1);
        Due.is("a door that is shut in all its turns", z.mouseArrives(2), -1);
        Due.is("mouseIn is as before", z.mouseIn(), 1);
    }

    private static void arrivesWrongly() {
        DoorChase x = Houses.row("..");
        Due.index("catArrives 2, no chase", () -> x.catArrives(2));
        Due.index("mouseArrives -1, no chase", () -> x.mouseArrives(-1));
        Due.state("catArrives, no chase", () -> x.catArrives(0));
        Due.state("mouseArrives, no chase", () -> x.mouseArrives(0));
        x.begin(0, 1);
        Due.index("catArrives 2", () -> x.catArrives(2));
        Due.index("catArrives -1", () -> x.catArrives(-1));
        Due.index("mouseArrives 2", () -> x.mouseArrives(2));
        Due.index("mouseArrives -1", () -> x.mouseArrives(-1));
    }

    private static void turnsToCatch() {
        DoorChase x = Houses.row("....");
        Due.is("no chase", x.turnsToCatch(), -1);
        Due.is("at the ends of a row of four", x.begin(0, 3), 6);
        for (int turns = 6; turns > 0; turns--) {
            Due.is("played best", x.turnsToCatch(), turns);
            x.play(1);
        }
        Due.is("after the chase", x.turnsToCatch(), -1);
        DoorChase y = Houses.ring("....");
        Due.is("in a ring", y.begin(0, 2), -1);
        y.turnLock(3);
        Due.is("in a ring with a locked door", y.turnsToCatch(), 6);
        y.turnLock(3);
        Due.is("in a ring again", y.turnsToCatch(), -1);
        DoorChase z = Houses.row("..s");
        Due.is("the mouse next to a safe room", z.begin(0, 1), -1);
        z.turnLock(1);
        Due.is("the safe room locked", z.turnsToCatch(), 2);
    }

    // By hand: the cat goes in the first odd turn in which the door is open.
    private static void turnsByDoors() {
        Due.is("always open", Houses.pair(1, 0).begin(0, 1), 2);
        Due.is("shut in odd turns", Houses.pair(2, 1).begin(0, 1), -1);
        Due.is("shut in even turns", Houses.pair(2, 0).begin(0, 1), 2);
        Due.is("shut in 0, 3, 6 ..", Houses.pair(3, 0).begin(0, 1), 2);
        Due.is("shut in 1, 4, 7 ..", Houses.pair(3, 1).begin(0, 1), 4);
        Due.is("shut in 2, 5, 8 ..", Houses.pair(3, 2).begin(0, 1), 2);
        Due.is("shut in 1, 5, 9 ..", Houses.pair(4, 1).begin(0, 1), 4);
        Due.is("shut in 3, 7, 11 ..", Houses.pair(4, 3).begin(0, 1), 2);
        DoorChase x = Houses.pair(3, 0);
        x.begin(0, 1);
        x.go(1);
        x.go(0);
        Due.is("shut in 3, from the turn 2 on", x.turnsToCatch(), 4);
    }

    private static void turnsFrom() {
        DoorChase x = Houses.row("...s");
        Due.is("the same room, no chase", x.turnsFrom(1, 1), 0);
        Due.is("next to a safe room", x.turnsFrom(1, 2), -1);
        Due.is("cut off from the safe room", x.turnsFrom(1, 0), 2);
        Due.is("in the safe room", x.turnsFrom(1, 3), -1);
        Due.argument("cat in a safe room", () -> x.turnsFrom(3, 0));
        Due.argument("both in a safe room", () -> x.turnsFrom(3, 3));
        Due.index("cat 4", () -> x.turnsFrom(4, 0));
        Due.index("cat -1", () -> x.turnsFrom(-1, 0));
        Due.index("mouse 4, the cat in a safe room", () -> x.turnsFrom(3, 4));
        Due.index("mouse -1", () -> x.turnsFrom(0, -1));
        x.begin(0, 3);
        x.go(3);
        Due.is("on the cat's turn", x.turnsFrom(1, 2), 1);
        Due.is("on the cat's turn, two doors off", x.turnsFrom(0, 2), -1);
        Due.is("on the cat's turn, in the same room", x.turnsFrom(2, 2), 0);
    }

    private static void safeNow() {
        DoorChase x = Houses.row("...s");
        Due.is("no chase", x.safeNow(), 0);
        x.begin(1, 0);
        Due.is("the cat in 1: the mouse in 2 or 3", x.safeNow(), 2);
        x.begin(0, 3);
        Due.is("the cat in 0: the mouse in 2 or 3, or in 1", x.safeNow(), 3);
        x.go(3);
        Due.is("the cat in 0, on its turn", x.safeNow(), 2);
        x.turnLock(2);
        Due.is("the safe room locked", x.safeNow(), 1);
        DoorChase z = Houses.row("s..");
        z.begin(2, 0);
        Due.is("the mouse in the room 0 too", z.safeNow(), 2);
        DoorChase y = Houses.row("..");
        y.begin(0, 1);
        Due.is("nowhere", y.safeNow(), 0);
        y.go(0);
        Due.is("after the chase", y.safeNow(), 0);
    }

    private static void bestGoOfMouse() {
        DoorChase x = Houses.row("....");
        Due.is("no chase", x.bestGo(), -1);
        x.begin(0, 1);
        Due.is("away from the cat", x.bestGo(), 2);
        x.begin(0, 2);
        Due.is("stay where the next room is no better", x.bestGo(), 2);
        x.begin(3, 2);
        Due.is("away from the cat, to a smaller number", x.bestGo(), 1);
        x.begin(1, 0);
        Due.is("stay rather than go to the cat", x.bestGo(), 0);
        // The cat in the middle catches the mouse one turn later in 0, 2 and 3 alike.
        DoorChase y = Houses.withRooms("....");
        y.addDoor(1, 2, 1, 0);
        y.addDoor(1, 0, 1, 0);
        y.addDoor(1, 3, 1, 0);
        y.addDoor(2, 3, 2, 1);
        y.addDoor(2, 0, 2, 1);
        y.begin(1, 2);
        Due.is("the smallest of several as good", y.bestGo(), 0);
        DoorChase z = Houses.row("s.s.");
        z.begin(3, 1);
        Due.is("the smallest of several safe ones", z.bestGo(), 0);
        z.turnLock(0);
        Due.is("the one that is left", z.bestGo(), 1);
        Due.is("as nothing is changed", z.bestGo(), 1);
    }

    private static void bestGoOfCat() {
        DoorChase x = Houses.row("....");
        x.begin(0, 3);
        x.go(3);
        Due.is("to the mouse", x.bestGo(), 1);
        x.begin(2, 3);
        x.go(3);
        Due.is("catching it", x.bestGo(), 3);
        x.begin(1, 0);
        x.go(0);
        Due.is("catching it in the room 0", x.bestGo(), 0);
        // Doors 0-1, 0-2, 1-3 and 2-3; behind 3 the mouse sits in 4. Both ways are as short.
        DoorChase y = Houses.withRooms(".....");
        y.addDoor(0, 2, 1, 0);
        y.addDoor(0, 1, 1, 0);
        y.addDoor(1, 3, 2, 0);
        y.addDoor(2, 3, 2, 0);
        y.addDoor(3, 4, 2, 0);
        y.begin(0, 4);
        y.go(4);
        Due.is("the smallest of two ways as short", y.bestGo(), 1);
        y.turnLock(2);
        Due.is("the way that is left", y.bestGo(), 2);
    }

    // The mouse sits in 4, whose doors are shut in its turns. The shortest way leads through the
    // safe room 1, so that to stay in 0 is the nearest; those by 2 and by 3 are open to the cat.
    private static void bestGoOfCatByTheSoonestWay() {
        DoorChase x = Houses.withRooms(".s......");
        x.addDoor(0, 1, 1, 0);
        x.addDoor(1, 4, 2, 0);
        x.addDoor(0, 2, 1, 0);
        x.addDoor(2, 5, 1, 0);
        x.addDoor(5, 6, 1, 0);
        x.addDoor(6, 4, 2, 0);
        x.addDoor(0, 3, 1, 0);
        x.addDoor(3, 7, 1, 0);
        x.addDoor(7, 4, 2, 0);
        x.begin(0, 4);
        x.go(4);
        x.turnLock(8);
        Due.is("by the way of four doors", x.bestGo(), 2);
        x.turnLock(8);
        Due.is("by the way of three doors", x.bestGo(), 3);
        x.addDoor(2, 4, 2, 0);
        Due.is("by the way of two doors", x.bestGo(), 2);
        x.addDoor(0, 4, 2, 0);
        Due.is("by the way of one door", x.bestGo(), 4);
    }

    private static void houseThatChanges() {
        DoorChase x = Houses.withRooms("...");
        Due.is("without doors", x.begin(0, 2), -1);
        x.addDoor(0, 1, 1, 0);
        Due.is("with one door", x.turnsToCatch(), -1);
        x.addDoor(1, 2, 1, 0);
        Due.is("with two doors", x.turnsToCatch(), 4);
        Due.is("everywhere", x.safeNow(), 0);
        x.addRoom(false);
        Due.is("but in a new room", x.safeNow(), 1);
        Due.is("from a new room", x.turnsFrom(3, 3), 0);
        x.addDoor(2, 3, 1, 0);
        Due.is("with three doors", x.turnsToCatch(), 6);
        x.turnLock(1);
        Due.is("with a locked door", x.turnsToCatch(), -1);
        Due.is("the new room and the one next to it", x.safeNow(), 2);
    }

    private static void bestGoOfCatThatNeverCatches() {
        DoorChase x = Houses.row("...s");
        x.begin(0, 3);
        x.go(3);
        Due.is("nearer to a mouse in a safe room", x.bestGo(), 1);
        x.play(2);
        Due.is("and nearer", x.bestGo(), 2);
        x.play(2);
        Due.is("then stay", x.bestGo(), 2);
        DoorChase y = Houses.withRooms("....");
        y.addDoor(1, 2, 1, 0);
        y.addDoor(0, 1, 1, 0);
        y.begin(1, 3);
        y.go(3);
        Due.is("no way to the mouse: the smallest number", y.bestGo(), 0);
        DoorChase z = Houses.withRooms("...s.");
        z.addDoor(2, 1, 1, 0);
        z.addDoor(2, 4, 2, 1);
        z.addDoor(4, 3, 1, 0);
        z.addDoor(1, 0, 1, 0);
        z.begin(2, 3);
        z.go(3);
        Due.is("stay where only a shut door leads nearer", z.bestGo(), 2);
        z.turnLock(1);
        Due.is("no way is not nearer: the smallest number", z.bestGo(), 1);
    }

    private static void pairs() {
        DoorChase x = Houses.row("...");
        Due.is("pairs in a row of three", x.pairsCaught(), 6);
        // 4 from end to end, 0 and 2; 2 from the middle to each end; and from an end to the
        // middle 4, as the mouse goes on to the other end.
        Due.is("longest in it", x.longestChase(), 4);
        Due.is("mean in it", x.meanTurns(), (4.0 + 4 + 2 + 2 + 4 + 4) / 6.0);
        x.begin(0, 2);
        x.go(2);
        // On the cat's turn: 3 from end to end, 1 from each room to the next one.
        Due.is("pairs on the cat's turn", x.pairsCaught(), 6);
        Due.is("longest on the cat's turn", x.longestChase(), 3);
        Due.is("mean on the cat's turn", x.meanTurns(), 10.0 / 6.0);
        DoorChase y = Houses.row("..s");
        Due.is("pairs with a safe room", y.pairsCaught(), 1);
        Due.is("longest with a safe room", y.longestChase(), 2);
        Due.is("mean with a safe room", y.meanTurns(), 2.0);
    }

    private static void pairsWithoutAny() {
        for (String kinds : new String[] {"", ".", "s", "ss", "s."}) {
            DoorChase x = Houses.row(kinds);
            Due.is("pairs in '" + kinds + "'", x.pairsCaught(), 0);
            Due.is("longest in '" + kinds + "'", x.longestChase(), -1);
            Due.is("mean in '" + kinds + "'", x.meanTurns(), 0.0);
        }
    }

    private static void bestDoorToLock() {
        // Without the door 0 the mouse goes on to the other end of a row, without the door 2
        // it is at the other end: 4 turns in place of 2. Without the door 1 it is still 2.
        DoorChase x = Houses.ring("...");
        Due.is("no chase", x.bestDoorToLock(), -1);
        Due.is("in a triangle", x.begin(0, 2), 2);
        Due.is("the smallest of two as good", x.bestDoorToLock(), 0);
        Due.is("nothing is locked by that", x.isLocked(0), false);
        Due.is("nothing is later by that", x.turnsToCatch(), 2);
        x.turnLock(0);
        Due.is("one that is not locked: never", x.bestDoorToLock(), 2);
        x.turnLock(2);
        Due.is("never, without it too", x.bestDoorToLock(), -1);
        // In a row of four with the cat in 0 and the mouse in 2: 6 turns. Cut off: never.
        DoorChase y = Houses.row("....");
        Due.is("in a row", y.begin(0, 2), 6);
        Due.is("never, the smallest number", y.bestDoorToLock(), 0);
        y.begin(1, 3);
        Due.is("a door behind the cat is of no use", y.bestDoorToLock(), 1);
        // The triangle again, its doors in another order: now the first is that of no use.
        DoorChase z = Houses.withRooms("...");
        z.addDoor(1, 2, 1, 0);
        z.addDoor(0, 1, 1, 0);
        z.addDoor(0, 2, 1, 0);
        z.begin(0, 2);
        Due.is("a later door that is better than the first", z.bestDoorToLock(), 1);
    }

    private static void noDoorToLock() {
        DoorChase x = Houses.ring("....");
        x.begin(0, 2);
        Due.is("never caught anyway", x.bestDoorToLock(), -1);
        DoorChase y = Houses.ring("...");
        y.addRoom(false);
        y.begin(0, 1);
        y.go(1);
        // On the cat's turn, next to it: only their own door makes it later.
        Due.is("the door between them", y.bestDoorToLock(), 0);
        y.go(1);
        Due.is("after the chase", y.bestDoorToLock(), -1);
        DoorChase z = Houses.withRooms("..");
        z.begin(0, 1);
        Due.is("without doors", z.bestDoorToLock(), -1);
    }

    // Eight rooms and 14 doors, the last of them between the cat and the mouse.
    private static void fullHouse() {
        DoorChase x = Houses.ring("........");
        for (int room = 0; room < 5; room++) {
            x.addDoor(room, room + 2, 1, 0);
        }
        x.addDoor(3, 7, 1, 0);
        x.begin(3, 7);
        Due.is("never caught in all that", x.turnsToCatch(), -1);
        Due.is("no door to lock", x.bestDoorToLock(), -1);
        x.go(7);
        Due.is("caught on the cat's turn", x.turnsToCatch(), 1);
        Due.is("the last door to lock", x.bestDoorToLock(), 13);
        Due.is("bestGo to the last room", x.bestGo(), 7);
        // Two for each door; and each way out of 1 ends next to 2, and each out of 5 next to 4,
        // so that a cat in 4 catches a mouse in 1 by going to 2, and one in 2 that in 5, in 3 turns.
        Due.is("pairs", x.pairsCaught(), 30);
        Due.is("longest", x.longestChase(), 3);
        Due.is("mean", x.meanTurns(), 34.0 / 30.0);
        Due.is("safeNow: but for 1, 2, 4, 5 and 7, next to it, and 3", x.safeNow(), 2);
        x.turnLock(13);
        Due.is("without it", x.turnsToCatch(), -1);
        Due.is("catArrives", x.catArrives(7), 5);
        Due.is("mouseArrives", x.mouseArrives(3), 6);
    }
}
