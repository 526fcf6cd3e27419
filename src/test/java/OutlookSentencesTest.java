/** Promises 27 to 36 and their terms, sentence by sentence: each boundary case in a run of its own. */
final class OutlookSentencesTest {
    private OutlookSentencesTest() {
    }

    public static void main(String[] args) {
        catArrives();
        catArrivesNever();
        catArrivesThroughDoors();
        mouseArrives();
        mouseArrivesThroughDoors();
        arrivesRefused();
        surelyCatches();
        surelyCatchesThroughDoors();
        turnsToCatch();
        turnsFrom();
        turnsFromRefused();
        safeNow();
        bestGo();
        bestGoOfMouse();
        bestGoOfCat();
        bestGoOfCatFromThenOn();
        bestGoOfCatThatNeverCatches();
        pairs();
        pairsOfEightRooms();
        pairsFromThisTurnOn();
        bestDoorToLock();
        bestDoorToLockIsNone();
        Due.end("OutlookSentencesTest");
    }

    private static void catArrives() {
        Runs.holds("27: by how many turns from now on at least: 0 if it is there", """
            rooms ...
            row
            begin 0 2
            catArrives 0 = 0
            catArrives 1 = 2
            catArrives 2 = 4
            stay 1
            catArrives 0 = 0
            catArrives 1 = 1
            catArrives 2 = 3
            go 1 = false
            catArrives 1 = 0
            catArrives 0 = 2
            """);
        Runs.holds("27: wherever the mouse is, in that room or on the way to it", """
            rooms ...
            row
            begin 0 1
            catArrives 1 = 2
            catArrives 2 = 4
            """);
        Runs.holds("27: at least, of two ways", """
            rooms ......
            ring
            begin 0 3
            catArrives 5 = 2
            catArrives 4 = 4
            catArrives 3 = 6
            catArrives 2 = 4
            """);
    }

    private static void catArrivesNever() {
        Runs.holds("27: -1 if never: a safe room, and one behind it", """
            rooms .s.
            row
            begin 0 1
            catArrives 1 = -1
            catArrives 2 = -1
            """);
        Runs.holds("27: round about a safe room", """
            rooms .s..
            ring
            begin 0 1
            catArrives 1 = -1
            catArrives 2 = 4
            catArrives 3 = 2
            """);
        Runs.holds("27: -1 if never: no door, a locked one, one that is shut in all its turns", """
            rooms ....
            addDoor 0 1 1 0
            addDoor 0 2 2 1
            begin 0 1
            catArrives 3 = -1
            catArrives 2 = -1
            catArrives 1 = 2
            turnLock 0
            catArrives 1 = -1
            catArrives 0 = 0
            """);
    }

    private static void catArrivesThroughDoors() {
        Runs.holds("27, terms: a door that is shut when it comes, and open later", """
            rooms ..
            addDoor 0 1 4 1
            begin 0 1
            catArrives 1 = 4
            stay 1
            catArrives 1 = 3
            stay 1
            catArrives 1 = 2
            stay 1
            catArrives 1 = 1
            stay 1
            catArrives 1 = 4
            stay 8
            turn = 12
            catArrives 1 = 4
            """);
        Runs.holds("27: the latest that there is: seven doors, each waited for", """
            rooms ........
            addDoor 0 1 4 1
            addDoor 1 2 4 1
            addDoor 2 3 4 1
            addDoor 3 4 4 1
            addDoor 4 5 4 1
            addDoor 5 6 4 1
            addDoor 6 7 4 1
            begin 0 7 = 28
            catArrives 7 = 28
            catArrives 6 = 24
            stay 1
            catArrives 7 = 27
            """);
    }

    private static void mouseArrives() {
        Runs.holds("28: by how many turns from now on at least: 0 if it is there", """
            rooms ...
            row
            begin 2 0
            mouseArrives 0 = 0
            mouseArrives 1 = 1
            mouseArrives 2 = 3
            stay 1
            mouseArrives 0 = 0
            mouseArrives 1 = 2
            mouseArrives 2 = 4
            """);
        Runs.holds("28: wherever the cat is, in that room or on the way to it", """
            rooms ...
            row
            begin 1 0
            mouseArrives 1 = 1
            mouseArrives 2 = 3
            """);
        Runs.holds("28, terms: in safe rooms, and through them", """
            rooms .s.
            row
            begin 2 0
            mouseArrives 1 = 1
            mouseArrives 2 = 3
            """);
        Runs.holds("28: -1 if never: no door, a locked one, one that is shut in all its turns", """
            rooms ....
            addDoor 0 1 1 0
            addDoor 0 2 2 0
            begin 1 0
            mouseArrives 3 = -1
            mouseArrives 2 = -1
            mouseArrives 1 = 1
            turnLock 0
            mouseArrives 1 = -1
            mouseArrives 0 = 0
            """);
    }

    private static void mouseArrivesThroughDoors() {
        Runs.holds("28, terms: a door that is shut when it comes, and open later", """
            rooms ..
            addDoor 0 1 4 0
            begin 1 0
            mouseArrives 1 = 3
            stay 1
            mouseArrives 1 = 2
            stay 1
            mouseArrives 1 = 1
            stay 1
            mouseArrives 1 = 4
            stay 1
            mouseArrives 1 = 3
            """);
        Runs.holds("28: the latest that there is: seven doors, each waited for", """
            rooms ........
            addDoor 0 1 4 0
            addDoor 1 2 4 0
            addDoor 2 3 4 0
            addDoor 3 4 4 0
            addDoor 4 5 4 0
            addDoor 5 6 4 0
            addDoor 6 7 4 0
            begin 7 0
            mouseArrives 7 = 27
            stay 3
            mouseArrives 7 = 28
            stay 1
            mouseArrives 7 = 27
            """);
    }

    private static void arrivesRefused() {
        Runs.holds("27, 28: throws IndexOutOfBoundsException if there is no such room", """
            rooms .s
            begin 0 1
            catArrives -1 = index
            catArrives 2 = index
            catArrives least = index
            catArrives greatest = index
            mouseArrives -1 = index
            mouseArrives 2 = index
            mouseArrives least = index
            mouseArrives greatest = index
            rooms ......
            catArrives 8 = index
            mouseArrives 8 = index
            """);
        Runs.holds("27, 28: throws IllegalStateException if no chase is on", """
            rooms .s.
            addDoor 0 2 1 0
            catArrives 0 = state
            catArrives 1 = state
            mouseArrives 1 = state
            begin 0 2
            go 0 = true
            catArrives 0 = state
            catArrives 1 = state
            mouseArrives 0 = state
            """);
        Runs.holds("27, 28, terms: no such room goes before no chase", """
            rooms ..
            row
            catArrives 2 = index
            mouseArrives 2 = index
            begin 0 1
            go 0 = true
            catArrives -1 = index
            mouseArrives -1 = index
            """);
    }

    private static void surelyCatches() {
        Runs.holds("terms: in 0, if both are in one room, whoever goes", """
            rooms ..
            row
            turnsFrom 0 0 = 0
            turnsFrom 1 1 = 0
            begin 0 1
            stay 1
            turnsFrom 0 0 = 0
            turnsFrom 1 1 = 0
            """);
        Runs.holds("terms: if the cat goes, in 1 more than the fewest of the rooms to which it can go", """
            rooms ....
            row
            begin 1 3
            stay 1
            turnsFrom 1 2 = 1
            turnsFrom 1 3 = 3
            turnsFrom 1 0 = 1
            turnsFrom 2 0 = 3
            turnsFrom 3 0 = 5
            """);
        Runs.holds("terms: if the mouse goes, in 1 more than the most, if from all of these", """
            rooms ....
            row
            turnsFrom 0 3 = 6
            turnsFrom 0 2 = 6
            turnsFrom 0 1 = 6
            turnsFrom 1 0 = 2
            turnsFrom 1 2 = 4
            """);
        Runs.holds("terms: never, if there is one of these from which it does not", """
            rooms ..s
            row
            turnsFrom 0 1 = -1
            turnsFrom 1 0 = 2
            turnLock 1
            turnsFrom 0 1 = 2
            """);
        Runs.holds("terms: never: a ring of four, and never where the cat cannot go", """
            rooms .....s
            addDoor 0 1 1 0
            addDoor 1 2 1 0
            addDoor 2 3 1 0
            addDoor 3 0 1 0
            begin 0 2 = -1
            turnsFrom 0 1 = -1
            turnsFrom 0 4 = -1
            turnsFrom 0 5 = -1
            stay 1
            turnsFrom 0 1 = 1
            turnsFrom 0 2 = -1
            """);
        Runs.holds("terms: the cat never goes to a safe room, nor through one", """
            rooms .s.
            row
            turnsFrom 0 1 = -1
            turnsFrom 0 2 = -1
            begin 0 2
            stay 1
            turnsFrom 0 1 = -1
            """);
    }

    private static void surelyCatchesThroughDoors() {
        Runs.holds("terms: the cat stays, and goes when the door is open", """
            rooms ..
            addDoor 0 1 4 1
            turnsFrom 0 1 = 4
            begin 0 1 = 4
            stay 1
            turnsToCatch = 3
            stay 1
            turnsToCatch = 2
            stay 1
            turnsToCatch = 1
            stay 1
            turnsToCatch = 4
            """);
        Runs.holds("terms: never by a door that is shut in all of the cat's turns", """
            rooms ..
            addDoor 0 1 2 1
            begin 0 1 = -1
            stay 1
            turnsToCatch = -1
            """);
        Runs.holds("terms: the mouse gets away only by a door that is open in its turns", """
            rooms ..s
            addDoor 0 1 1 0
            addDoor 1 2 2 0
            begin 0 1 = 2
            addRoom true
            addDoor 1 3 4 0
            turnsToCatch = 2
            stay 1
            go 1 = true
            begin 0 1 = 2
            stay 2
            turnsToCatch = -1
            """);
    }

    private static void turnsToCatch() {
        Runs.holds("29: in how many turns the cat surely catches the mouse from now on", """
            rooms ...
            row
            begin 0 2 = 4
            turnsToCatch = 4
            stay 1
            turnsToCatch = 3
            stay 1
            turnsToCatch = 4
            go 2 = false
            go 1 = false
            turnsToCatch = 2
            stay 1
            turnsToCatch = 1
            """);
        Runs.holds("29: -1 if never, or no chase is on", """
            rooms ..
            turnsToCatch = -1
            row
            turnsToCatch = -1
            begin 0 1 = 2
            turnLock 0
            turnsToCatch = -1
            turnLock 0
            turnsToCatch = 2
            go 0 = true
            turnsToCatch = -1
            """);
        Runs.holds("29, 3: rooms and doors that are new count at once", """
            rooms ...
            begin 0 2 = -1
            addDoor 0 1 1 0
            turnsToCatch = -1
            addDoor 1 2 1 0
            turnsToCatch = 4
            addRoom true
            turnsToCatch = 4
            addDoor 3 2 1 0
            turnsToCatch = -1
            """);
    }

    private static void turnsFrom() {
        Runs.holds("30: this cat and this mouse, wherever those of the chase are", """
            rooms ....
            row
            begin 3 0
            turnsFrom 0 3 = 6
            turnsFrom 2 3 = 2
            turnsFrom 3 0 = 6
            turnsFrom 3 3 = 0
            """);
        Runs.holds("30: from this turn on, that behind the latest chase if none is on", """
            rooms ..
            row
            turnsFrom 0 1 = 2
            begin 0 1
            go 0 = true
            turn = 1
            turnsFrom 0 1 = 1
            turnsFrom 1 0 = 1
            begin 0 1
            turnsFrom 0 1 = 2
            stay 1
            go 1 = true
            turnsFrom 0 1 = 2
            """);
        Runs.holds("30: -1 if never", """
            rooms .s.
            row
            turnsFrom 0 1 = -1
            turnsFrom 0 2 = -1
            turnsFrom 2 1 = -1
            """);
    }

    private static void turnsFromRefused() {
        Runs.holds("30: throws IndexOutOfBoundsException if there is no such room", """
            rooms ..
            row
            turnsFrom -1 0 = index
            turnsFrom 0 -1 = index
            turnsFrom 2 0 = index
            turnsFrom 0 2 = index
            turnsFrom 2 2 = index
            turnsFrom least 0 = index
            turnsFrom 0 greatest = index
            rooms ......
            turnsFrom 8 7 = index
            turnsFrom 7 8 = index
            """);
        Runs.holds("30: throws IllegalArgumentException if that of the cat is safe", """
            rooms .s......
            turnsFrom 1 0 = argument
            turnsFrom 1 1 = argument
            turnsFrom 1 7 = argument
            turnsFrom 0 1 = -1
            """);
        Runs.holds("30, terms: no such room goes before a safe one", """
            rooms .s
            turnsFrom 1 2 = index
            turnsFrom 1 -1 = index
            """);
    }

    private static void safeNow() {
        Runs.holds("31: in how many rooms the mouse could be now: safe ones and others, not the cat's", """
            rooms ...s....
            begin 0 1
            safeNow = 7
            addDoor 0 1 1 0
            safeNow = 6
            addDoor 1 2 1 0
            safeNow = 5
            addDoor 2 3 1 0
            safeNow = 7
            """);
        Runs.holds("31: where the cat is, and in this turn", """
            rooms ....
            ring
            begin 0 2
            safeNow = 3
            stay 1
            safeNow = 1
            go 1 = false
            safeNow = 3
            """);
        Runs.holds("31: 0 where the mouse is safe nowhere; 0 if no chase is on", """
            rooms ..s
            addDoor 0 1 1 0
            safeNow = 0
            begin 0 1
            safeNow = 1
            go 0 = true
            safeNow = 0
            begin 0 2
            safeNow = 1
            begin 0 1
            stay 1
            go 1 = true
            safeNow = 0
            """);
        Runs.holds("31: nowhere", """
            rooms ...
            row
            begin 0 2
            safeNow = 0
            stay 1
            safeNow = 0
            """);
    }

    private static void bestGo() {
        Runs.holds("32: -1 if no chase is on", """
            bestGo = -1
            rooms ..
            row
            bestGo = -1
            begin 0 1
            bestGo = 1
            go 0 = true
            bestGo = -1
            begin 0 1
            play 60 = 2
            bestGo = -1
            """);
        Runs.holds("32: who goes in this turn, or stays", """
            rooms ..
            begin 1 0
            bestGo = 0
            stay 1
            bestGo = 1
            stay 1
            bestGo = 0
            """);
    }

    private static void bestGoOfMouse() {
        Runs.holds("32, terms: the mouse goes where the cat never surely catches it from then on", """
            rooms ...s
            row
            begin 0 2
            bestGo = 2
            stay 1
            go 1 = false
            bestGo = 3
            """);
        Runs.holds("32, terms: of several such rooms the smallest number, though it could stay", """
            rooms ss.
            row
            begin 2 1 = -1
            bestGo = 0
            go 0 = false
            stay 1
            bestGo = 0
            """);
        Runs.holds("32, terms: the smallest number may be that where it stays", """
            rooms .ss
            row
            begin 0 1 = -1
            bestGo = 1
            """);
        Runs.holds("32, terms: if there is no such room, where it does in the most turns", """
            rooms ....
            row
            begin 0 1
            bestGo = 2
            begin 3 2
            bestGo = 1
            begin 1 2
            bestGo = 3
            begin 1 0
            bestGo = 0
            """);
        Runs.holds("32, terms: of several rooms with the most turns the smallest number", """
            rooms ....
            row
            begin 0 3 = 6
            bestGo = 2
            begin 0 2 = 6
            bestGo = 2
            begin 3 1 = 6
            bestGo = 0
            """);
        Runs.holds("32, terms: it stays rather than go to the cat, though that has a smaller number", """
            rooms ..
            row
            begin 0 1 = 2
            bestGo = 1
            """);
    }

    // From 1 the cat needs as many turns if it stays, for the door to the mouse is shut in turn 3.
    private static void bestGoOfCat() {
        Runs.holds("32, terms: the cat goes where it surely catches the mouse in the fewest turns", """
            rooms ....
            row
            begin 1 3
            stay 1
            bestGo = 2
            go 2 = false
            stay 1
            bestGo = 3
            begin 2 0
            stay 1
            bestGo = 1
            go 1 = false
            stay 1
            bestGo = 0
            """);
        Runs.holds("32, terms: fewest turns go before the least distance; of several the smallest number", """
            rooms ...
            addDoor 0 2 3 0
            addDoor 2 1 1 0
            begin 1 0
            stay 1
            turnsToCatch = 5
            distance 2 0 = 1
            distance 1 0 = 2
            bestGo = 1
            stay 2
            bestGo = 2
            """);
        Runs.holds("32, terms: the smallest number of two ways as short", """
            rooms .....
            addDoor 4 3 1 0
            addDoor 4 2 1 0
            addDoor 3 1 2 0
            addDoor 2 1 2 0
            addDoor 1 0 1 0
            begin 4 0
            stay 1
            bestGo = 2
            """);
    }

    private static void bestGoOfCatFromThenOn() {
        Runs.holds("32, terms: through doors that are open in this turn, whatever they are in the next", """
            rooms ..
            addDoor 0 1 4 1
            begin 0 1
            stay 1
            bestGo = 0
            rooms .
            addDoor 2 1 4 2
            begin 2 1
            stay 1
            bestGo = 1
            """);
        // From 0 the cat would be at the mouse's room too, but for the mouse that goes to 1 before.
        Runs.holds("32, terms: from then on, when the mouse goes first", """
            rooms ...
            addDoor 1 2 4 1
            addDoor 0 2 4 2
            addDoor 1 0 4 3
            begin 1 2
            stay 1
            turnsToCatch = 3
            bestGo = 1
            """);
    }

    private static void bestGoOfCatThatNeverCatches() {
        Runs.holds("32, terms: if from nowhere, where the distance is the least", """
            rooms ...s
            row
            begin 0 3
            stay 1
            bestGo = 1
            go 1 = false
            stay 1
            bestGo = 2
            go 2 = false
            stay 1
            bestGo = 2
            """);
        Runs.holds("32, terms: the distance counts doors that are shut, and safe rooms", """
            rooms ..s.
            addDoor 0 1 1 0
            addDoor 1 2 2 1
            addDoor 2 3 2 1
            begin 0 3
            stay 1
            bestGo = 1
            go 1 = false
            stay 1
            bestGo = 1
            """);
        Runs.holds("32, terms: of several rooms as near the smallest number", """
            rooms ......
            addDoor 5 1 1 0
            addDoor 5 2 1 0
            addDoor 1 3 1 0
            addDoor 2 3 1 0
            addDoor 3 4 2 1
            begin 5 4 = -1
            stay 1
            bestGo = 1
            turnLock 2
            bestGo = 2
            """);
        Runs.holds("32, terms: no way counts as more than any: the smallest number, if there is none", """
            rooms ....
            addDoor 1 2 1 0
            addDoor 1 0 1 0
            begin 1 3 = -1
            stay 1
            bestGo = 0
            go 2 = false
            stay 1
            bestGo = 1
            """);
        Runs.holds("32, terms: a locked door is no way", """
            rooms ...
            row
            begin 1 2
            turnLock 1
            stay 1
            bestGo = 0
            """);
    }

    private static void pairs() {
        Runs.holds("33, 34, 36: pairs of two different rooms; 0, -1 and 0 without any", """
            pairsCaught = 0
            longestChase = -1
            meanTurns = 0/1
            rooms .
            pairsCaught = 0
            longestChase = -1
            meanTurns = 0/1
            addRoom false
            pairsCaught = 0
            longestChase = -1
            meanTurns = 0/1
            addDoor 0 1 1 0
            pairsCaught = 2
            longestChase = 2
            meanTurns = 2/1
            turnLock 0
            pairsCaught = 0
            longestChase = -1
            meanTurns = 0/1
            """);
        Runs.holds("33: that of the cat not safe, and none in which the mouse is in a safe one", """
            rooms .s.s
            row
            pairsCaught = 0
            addDoor 0 2 1 0
            pairsCaught = 0
            longestChase = -1
            turnLock 0
            turnLock 1
            turnLock 2
            pairsCaught = 2
            longestChase = 2
            meanTurns = 2/1
            """);
        Runs.holds("33, 34, 36: whether or not a chase is on, wherever its cat and mouse are", """
            rooms ...
            row
            pairsCaught = 6
            longestChase = 4
            meanTurns = 20/6
            begin 1 2
            pairsCaught = 6
            longestChase = 4
            meanTurns = 20/6
            begin 0 2
            pairsCaught = 6
            longestChase = 4
            meanTurns = 20/6
            """);
    }

    // If the mouse goes first in a row of eight, a cat in a catches it at the far end: in 2 * (7 - a)
    // turns to the right, 2 * a to the left. If the cat goes first, in 1 from the next room, and else in
    // 1 less than that.
    private static void pairsOfEightRooms() {
        Runs.holds("33, 34, 36: all the 56 pairs of eight rooms, the mouse going first", """
            rooms ........
            row
            pairsCaught = 56
            longestChase = 14
            meanTurns = 560/56
            """);
        Runs.holds("33, 34, 36: all the 56 pairs of eight rooms, the cat going first", """
            rooms ........
            row
            begin 0 7
            stay 1
            pairsCaught = 56
            longestChase = 13
            meanTurns = 420/56
            """);
    }

    private static void pairsFromThisTurnOn() {
        Runs.holds("33, 34, 36: from this turn on, that behind the latest chase if none is on", """
            rooms ..
            row
            begin 0 1
            pairsCaught = 2
            longestChase = 2
            meanTurns = 2/1
            go 0 = true
            pairsCaught = 2
            longestChase = 1
            meanTurns = 1/1
            """);
        Runs.holds("33, 34, 36: never in some turns, and surely in others", """
            rooms ....
            ring
            pairsCaught = 0
            longestChase = -1
            meanTurns = 0/1
            begin 0 2
            stay 1
            pairsCaught = 8
            longestChase = 1
            meanTurns = 1/1
            stay 1
            pairsCaught = 0
            """);
        Runs.holds("36: a mean that is not whole", """
            rooms ...
            row
            begin 0 2
            stay 1
            pairsCaught = 6
            longestChase = 3
            meanTurns = 10/6
            """);
    }

    // Without the door 0 the four rooms are a star, and it takes 4 turns; without 3 a row, and 6.
    private static void bestDoorToLock() {
        Runs.holds("35: by whose locking now the cat surely catches the mouse the latest", """
            rooms ....
            addDoor 3 2 1 0
            addDoor 0 1 1 0
            addDoor 0 3 1 0
            addDoor 0 2 1 0
            begin 2 3 = 2
            bestDoorToLock = 3
            turnLock 0
            turnsToCatch = 4
            turnLock 0
            turnLock 3
            turnsToCatch = 6
            """);
        Runs.holds("35: or never, which is later than any", """
            rooms ....
            addDoor 0 1 1 0
            addDoor 1 2 1 0
            addDoor 0 2 1 0
            addDoor 2 3 1 0
            begin 0 3 = 4
            bestDoorToLock = 3
            turnLock 2
            turnsToCatch = 6
            bestDoorToLock = 0
            """);
        Runs.holds("35: of several the smallest number", """
            rooms ...
            ring
            begin 0 2 = 2
            bestDoorToLock = 0
            begin 0 1 = 2
            bestDoorToLock = 0
            begin 2 0 = 2
            bestDoorToLock = 1
            """);
        Runs.holds("35: of several by which it is never the smallest number", """
            rooms ....
            row
            begin 0 3 = 6
            bestDoorToLock = 0
            begin 1 3 = 4
            bestDoorToLock = 1
            begin 2 3 = 2
            bestDoorToLock = 2
            """);
        Runs.holds("35: one that is not locked", """
            rooms ...
            ring
            begin 0 2 = 2
            turnLock 0
            turnsToCatch = 4
            bestDoorToLock = 2
            """);
        Runs.holds("35: on the cat's turn, and the last of 14 doors", """
            rooms ........
            all
            begin 2 3
            stay 1
            turnsToCatch = 1
            bestDoorToLock = 13
            turnLock 13
            turnsToCatch = 3
            """);
    }

    private static void bestDoorToLockIsNone() {
        Runs.holds("35: -1 if by none it is later than without", """
            rooms ....
            ring
            begin 0 2 = -1
            bestDoorToLock = -1
            """);
        Runs.holds("35: -1 if by none it is later than without: no door, or none that is not locked", """
            rooms ..
            begin 0 1 = -1
            bestDoorToLock = -1
            row
            bestDoorToLock = 0
            turnLock 0
            bestDoorToLock = -1
            """);
        Runs.holds("35: -1 if no chase is on", """
            bestDoorToLock = -1
            rooms ..
            row
            bestDoorToLock = -1
            begin 0 1
            bestDoorToLock = 0
            go 0 = true
            bestDoorToLock = -1
            """);
    }
}
