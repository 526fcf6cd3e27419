/** Promises 6 to 9 and 12 to 17, sentence by sentence: each boundary case in a run of its own. */
final class ChaseSentencesTest {
    private ChaseSentencesTest() {
    }

    public static void main(String[] args) {
        begin();
        beginInThePlaceOfOne();
        beginReturnsTurnsToCatch();
        beginRefused();
        go();
        goIsCaught();
        goRefused();
        goRefusedByDoors();
        goRefusedBySafeRooms();
        play();
        playBest();
        playAsLongAsTheChaseIsOn();
        playRefused();
        turn();
        isOn();
        isCaught();
        isCatsTurn();
        whereTheyAre();
        eaten();
        eatenNothing();
        Due.end("ChaseSentencesTest");
    }

    private static void begin() {
        Runs.holds("6: begins a chase, in the turn 0", """
            rooms ...
            row
            begin 2 0 = 4
            isOn = true
            turn = 0
            isCatsTurn = false
            isCaught = false
            catIn = 2
            mouseIn = 0
            eaten = 0
            """);
        Runs.holds("6: the first and the last of eight rooms", """
            rooms ........
            row
            begin 0 7 = 14
            begin 7 0 = 14
            catIn = 7
            mouseIn = 0
            """);
        Runs.holds("6, terms: the mouse may be in a safe room", """
            rooms .s
            row
            begin 0 1 = -1
            catIn = 0
            mouseIn = 1
            """);
        Runs.holds("6: nothing is eaten by it", """
            rooms ..
            putCheese 0 3
            putCheese 1 4
            begin 0 1 = -1
            eaten = 0
            cheeseIn 0 = 3
            cheeseIn 1 = 4
            """);
    }

    private static void beginInThePlaceOfOne() {
        Runs.holds("6: in the place of one that is on; the mouse has eaten nothing in it", """
            rooms ...
            row
            putCheese 2 3
            begin 0 2 = 4
            stay 1
            go 1 = false
            stay 1
            turn = 3
            eaten = 2
            begin 2 0 = 4
            turn = 0
            isCatsTurn = false
            catIn = 2
            mouseIn = 0
            eaten = 0
            cheeseIn 2 = 1
            isOn = true
            isCaught = false
            """);
        Runs.holds("6: in the place of one that is on, at the same places", """
            rooms ..
            begin 0 1
            stay 3
            begin 0 1
            turn = 0
            catIn = 0
            mouseIn = 1
            """);
        Runs.holds("6: behind one that is over", """
            rooms ..
            row
            putCheese 1 5
            begin 0 1 = 2
            stay 1
            go 1 = true
            eaten = 1
            begin 1 0 = 2
            isOn = true
            isCaught = false
            turn = 0
            eaten = 0
            cheeseIn 1 = 4
            """);
    }

    private static void beginReturnsTurnsToCatch() {
        Runs.holds("6: returns turnsToCatch() then: from the turn 0 on, not from that of a former chase", """
            rooms ..
            addDoor 0 1 3 1
            begin 0 1 = 4
            turnsToCatch = 4
            stay 2
            turnsToCatch = 2
            begin 0 1 = 4
            stay 3
            turnsToCatch = 1
            begin 1 0 = 4
            turnsToCatch = 4
            """);
        Runs.holds("6: returns turnsToCatch() then: -1 if never", """
            rooms ..
            begin 0 1 = -1
            turnsToCatch = -1
            row
            turnLock 0
            begin 0 1 = -1
            turnLock 0
            begin 0 1 = 2
            """);
    }

    private static void beginRefused() {
        Runs.holds("6: throws IndexOutOfBoundsException if there is no such room", """
            rooms .s.
            begin -1 0 = index
            begin 0 -1 = index
            begin 3 0 = index
            begin 0 3 = index
            begin least 0 = index
            begin 0 least = index
            begin greatest 0 = index
            begin 0 greatest = index
            isOn = false
            rooms .....
            begin 8 7 = index
            begin 7 8 = index
            begin 7 0 = -1
            begin 8 7 = index
            """);
        Runs.holds("6: throws IllegalArgumentException if both are the same", """
            rooms .s.
            begin 0 0 = argument
            begin 1 1 = argument
            begin 2 2 = argument
            isOn = false
            """);
        Runs.holds("6: throws IllegalArgumentException if that of the cat is safe", """
            rooms s.......
            begin 0 1 = argument
            begin 0 7 = argument
            isOn = false
            """);
        Runs.holds("6, terms: no such room goes before wrong ones", """
            rooms .s.
            begin 3 3 = index
            begin -1 -1 = index
            begin 1 3 = index
            begin 1 -1 = index
            begin 3 1 = index
            """);
        Runs.holds("6, terms: one that is refused leaves the chase that is on, and one that is over", """
            rooms ..s
            row
            putCheese 1 2
            begin 0 1
            stay 1
            begin 1 1 = argument
            begin 2 0 = argument
            begin 3 0 = index
            isOn = true
            turn = 1
            eaten = 1
            catIn = 0
            mouseIn = 1
            go 1 = true
            begin 1 1 = argument
            begin 0 3 = index
            isOn = false
            isCaught = true
            turn = 2
            eaten = 1
            """);
    }

    private static void go() {
        Runs.holds("7, terms: in even turns the mouse goes, in odd ones the cat", """
            rooms ....
            row
            begin 0 2
            go 3 = false
            catIn = 0
            mouseIn = 3
            turn = 1
            go 1 = false
            catIn = 1
            mouseIn = 3
            turn = 2
            go 2 = false
            catIn = 1
            mouseIn = 2
            """);
        Runs.holds("7: or stays in it, though no door is there", """
            rooms ..
            begin 0 1
            go 1 = false
            mouseIn = 1
            turn = 1
            go 0 = false
            catIn = 0
            turn = 2
            """);
        Runs.holds("7: goes through each of its doors, either way", """
            rooms ...
            addDoor 0 1 1 0
            addDoor 2 1 1 0
            rooms .
            begin 3 1
            go 0 = false
            stay 1
            go 1 = false
            stay 1
            go 2 = false
            stay 1
            go 1 = false
            """);
    }

    private static void goIsCaught() {
        Runs.holds("7: returns whether the mouse is caught by this: the cat goes to it", """
            rooms ..
            row
            begin 0 1
            stay 1
            go 1 = true
            isCaught = true
            isOn = false
            """);
        Runs.holds("7: returns whether the mouse is caught by this: the mouse goes to the cat", """
            rooms ..
            row
            begin 0 1
            go 0 = true
            isCaught = true
            isOn = false
            """);
        Runs.holds("7: going where the other one was is no catching", """
            rooms ...
            row
            begin 0 1
            go 2 = false
            go 1 = false
            isCaught = false
            isOn = true
            """);
    }

    private static void goRefused() {
        Runs.holds("7: throws IndexOutOfBoundsException if there is no such room", """
            rooms ..
            row
            begin 0 1
            go -1 = index
            go 2 = index
            go least = index
            go greatest = index
            stay 1
            go -1 = index
            go 2 = index
            rooms ......
            go 8 = index
            """);
        Runs.holds("7: throws IllegalStateException if no chase is on", """
            rooms ..
            row
            go 0 = state
            go 1 = state
            begin 0 1
            go 0 = true
            go 0 = state
            go 1 = state
            turn = 1
            isCaught = true
            """);
        Runs.holds("7, terms: no such room goes before no chase", """
            rooms ..
            row
            go 2 = index
            go -1 = index
            begin 0 1
            go 0 = true
            go 2 = index
            go -1 = index
            """);
        Runs.holds("7: throws IllegalStateException if who goes can neither go to it nor is in it", """
            rooms ....
            row
            begin 0 3
            go 1 = state
            go 0 = state
            turn = 0
            go 2 = false
            go 3 = state
            go 2 = state
            turn = 1
            go 1 = false
            go 0 = state
            """);
        Runs.holds("7: where only the other one is or can go", """
            rooms ...
            addDoor 0 1 1 0
            begin 0 2
            go 0 = state
            go 1 = state
            stay 1
            go 2 = state
            """);
    }

    private static void goRefusedByDoors() {
        Runs.holds("7, terms: a door that is shut in this turn, for the mouse and for the cat", """
            rooms ...
            addDoor 0 1 2 0
            addDoor 1 2 2 1
            begin 0 1
            go 0 = state
            go 2 = false
            go 1 = false
            stay 1
            go 2 = state
            go 0 = false
            go 1 = false
            """);
        Runs.holds("7, terms: the turn that counts is this one, not the next", """
            rooms ..
            addDoor 0 1 4 1
            begin 0 1
            stay 1
            go 1 = state
            stay 2
            go 1 = true
            turn = 4
            """);
        Runs.holds("7, terms: a door that is locked, though it be one of a period of 1", """
            rooms ..
            row
            begin 0 1
            turnLock 0
            go 0 = state
            stay 1
            go 1 = state
            turnLock 0
            go 1 = true
            """);
    }

    private static void goRefusedBySafeRooms() {
        Runs.holds("7, terms: the cat never goes to a safe room, the mouse in it or not", """
            rooms .s.
            row
            begin 0 2
            stay 1
            go 1 = state
            go 0 = false
            go 1 = false
            go 1 = state
            catIn = 0
            stay 1
            go 0 = true
            """);
    }

    private static void play() {
        Runs.holds("8: most: 1 and 60; returns how many turns were played", """
            rooms ....
            ring
            begin 0 2 = -1
            play 1 = 1
            turn = 1
            play 60 = 60
            turn = 61
            isOn = true
            play 59 = 59
            turn = 120
            """);
        Runs.holds("8: from the cat's turn on", """
            rooms ....
            ring
            begin 0 2
            stay 1
            play 1 = 1
            turn = 2
            play 2 = 2
            turn = 4
            """);
    }

    // In a row of four, the cat in 0: the mouse in 2 is caught in as many turns as in 3.
    private static void playBest() {
        Runs.holds("8: both play best", """
            rooms ....
            row
            begin 0 3 = 6
            bestGo = 2
            play 1 = 1
            mouseIn = 2
            bestGo = 1
            play 1 = 1
            catIn = 1
            bestGo = 3
            play 1 = 1
            mouseIn = 3
            bestGo = 2
            play 1 = 1
            catIn = 2
            bestGo = 3
            play 1 = 1
            mouseIn = 3
            bestGo = 3
            play 1 = 1
            isCaught = true
            turn = 6
            """);
        Runs.holds("8: the mouse eats as it plays, staying or going", """
            rooms ....
            row
            putCheese 3 4
            putCheese 2 4
            putCheese 0 4
            putCheese 1 4
            begin 0 3 = 6
            play 60 = 6
            eaten = 3
            cheeseIn 0 = 4
            cheeseIn 1 = 4
            cheeseIn 2 = 3
            cheeseIn 3 = 2
            """);
    }

    private static void playAsLongAsTheChaseIsOn() {
        Runs.holds("8: as long as the chase is on: fewer than most", """
            rooms ..
            row
            begin 0 1 = 2
            play 60 = 2
            isOn = false
            isCaught = true
            turn = 2
            """);
        Runs.holds("8: as long as the chase is on: as many as most, and one less", """
            rooms ...
            row
            begin 0 2 = 4
            play 4 = 4
            isCaught = true
            begin 0 2 = 4
            play 3 = 3
            isOn = true
            isCaught = false
            turnsToCatch = 1
            play 1 = 1
            isOn = false
            turn = 4
            """);
    }

    private static void playRefused() {
        Runs.holds("8: throws IllegalArgumentException if most is not 1 to 60", """
            rooms ....
            ring
            begin 0 2
            play 0 = argument
            play 61 = argument
            play -1 = argument
            play least = argument
            play greatest = argument
            turn = 0
            """);
        Runs.holds("8: throws IllegalStateException if no chase is on", """
            rooms ..
            row
            play 1 = state
            play 60 = state
            begin 0 1
            play 60 = 2
            play 1 = state
            play 60 = state
            turn = 2
            """);
        Runs.holds("8, terms: a wrong most goes before no chase", """
            play 0 = argument
            play 61 = argument
            rooms ..
            row
            begin 0 1
            play 60 = 2
            play 0 = argument
            play 61 = argument
            """);
    }

    private static void turn() {
        Runs.holds("9, terms: the turn, from 0; 1 greater whenever one went or stayed", """
            rooms ...
            row
            turn = 0
            begin 0 2
            turn = 0
            go 2 = false
            turn = 1
            go 0 = false
            turn = 2
            go 0 = state
            turn = 2
            play 1 = 1
            turn = 3
            begin 2 0
            turn = 0
            """);
        Runs.holds("9: that in which the latest chase was over, and 1, if none is on", """
            rooms ..
            row
            begin 0 1
            go 0 = true
            turn = 1
            addRoom false
            turnLock 0
            turnLock 0
            turn = 1
            begin 0 1
            turn = 0
            stay 5
            go 1 = true
            turn = 6
            """);
    }

    private static void isOn() {
        Runs.holds("12: whether a chase is on: not at first, nor when it is over", """
            rooms ..
            row
            isOn = false
            begin 0 0 = argument
            isOn = false
            begin 0 1
            isOn = true
            stay 1
            isOn = true
            go 1 = true
            isOn = false
            begin 0 1
            isOn = true
            go 0 = true
            isOn = false
            """);
    }

    private static void isCaught() {
        Runs.holds("13: whether the latest chase is over, as the mouse was caught", """
            rooms ..
            row
            isCaught = false
            begin 0 1
            isCaught = false
            stay 1
            isCaught = false
            go 1 = true
            isCaught = true
            begin 1 1 = argument
            isCaught = true
            begin 0 1
            isCaught = false
            begin 1 0
            isCaught = false
            go 1 = true
            isCaught = true
            """);
    }

    private static void isCatsTurn() {
        Runs.holds("14: whether the cat goes in this turn, a chase being on", """
            rooms ..
            begin 0 1
            isCatsTurn = false
            stay 1
            isCatsTurn = true
            stay 1
            isCatsTurn = false
            stay 1
            isCatsTurn = true
            begin 0 1
            isCatsTurn = false
            """);
        Runs.holds("14: a chase being on or not", """
            rooms ..
            row
            isCatsTurn = false
            begin 0 1
            go 0 = true
            turn = 1
            isCatsTurn = true
            begin 0 1
            stay 1
            go 1 = true
            turn = 2
            isCatsTurn = false
            """);
    }

    private static void whereTheyAre() {
        Runs.holds("15, 16: the rooms of both; -1 if no chase is on", """
            rooms ........
            row
            catIn = -1
            mouseIn = -1
            begin 7 0
            catIn = 7
            mouseIn = 0
            stay 1
            go 6 = false
            catIn = 6
            mouseIn = 0
            begin 0 7
            catIn = 0
            mouseIn = 7
            begin 0 1
            go 0 = true
            catIn = -1
            mouseIn = -1
            begin 0 1
            stay 1
            go 1 = true
            catIn = -1
            mouseIn = -1
            """);
    }

    private static void eaten() {
        Runs.holds("17, terms: a mouse that went, or stayed, eats one cheese of its room, if there is some", """
            rooms ...s
            row
            putCheese 2 1
            putCheese 3 2
            begin 0 2
            go 2 = false
            eaten = 1
            cheeseIn 2 = 0
            stay 1
            go 2 = false
            eaten = 1
            cheeseIn 2 = 0
            stay 1
            go 3 = false
            eaten = 2
            cheeseIn 3 = 1
            stay 2
            eaten = 3
            cheeseIn 3 = 0
            """);
        Runs.holds("17: how much in the latest chase: more than a room can have", """
            rooms ..
            putCheese 1 9
            begin 0 1
            stay 18
            eaten = 9
            cheeseIn 1 = 0
            putCheese 1 2
            stay 4
            eaten = 11
            begin 0 1
            eaten = 0
            """);
        Runs.holds("17: told on when the chase is over, until the next", """
            rooms ..
            row
            eaten = 0
            putCheese 1 5
            begin 0 1
            stay 3
            go 1 = true
            eaten = 2
            begin 0 0 = argument
            eaten = 2
            begin 0 1
            eaten = 0
            """);
    }

    private static void eatenNothing() {
        Runs.holds("17, terms: the cat eats nothing, where it goes or stays", """
            rooms ...
            row
            putCheese 0 2
            putCheese 1 2
            begin 0 2
            stay 1
            go 0 = false
            cheeseIn 0 = 2
            stay 1
            go 1 = false
            cheeseIn 1 = 2
            stay 1
            go 2 = true
            eaten = 0
            """);
        Runs.holds("17, terms: otherwise, so that a mouse that is caught as it goes eats nothing", """
            rooms ..
            row
            putCheese 0 2
            putCheese 1 2
            begin 0 1
            go 0 = true
            eaten = 0
            cheeseIn 0 = 2
            cheeseIn 1 = 2
            """);
        Runs.holds("17, terms: nor does one that is caught as the cat goes", """
            rooms ..
            row
            putCheese 1 2
            begin 0 1
            stay 1
            eaten = 1
            go 1 = true
            eaten = 1
            cheeseIn 1 = 1
            """);
    }
}
