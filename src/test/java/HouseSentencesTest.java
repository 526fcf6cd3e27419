/** Promises 1 to 5, 10, 11 and 18 to 26, sentence by sentence: each boundary case in a run of its own. */
final class HouseSentencesTest {
    private HouseSentencesTest() {
    }

    public static void main(String[] args) {
        newObject();
        addRoom();
        addRoomRefused();
        addDoor();
        addDoorWithNoSuchRoom();
        addDoorWithWrongArguments();
        addDoorWhereThereCanBeNone();
        addDoorNamesTheFirst();
        turnLock();
        putCheese();
        putCheeseRefused();
        roomsAndDoors();
        isSafe();
        cheeseIn();
        doorsOf();
        isLocked();
        isOpen();
        isOpenWithoutChase();
        turnsUntilOpen();
        doorBetween();
        isWayOpen();
        distance();
        Due.end("HouseSentencesTest");
    }

    private static void newObject() {
        Runs.holds("1: a house without rooms and doors, without a chase, at the turn 0", """
            turn = 0
            rooms = 0
            doors = 0
            isOn = false
            isCaught = false
            isCatsTurn = false
            catIn = -1
            mouseIn = -1
            eaten = 0
            turnsToCatch = -1
            safeNow = 0
            bestGo = -1
            pairsCaught = 0
            longestChase = -1
            bestDoorToLock = -1
            meanTurns = 0.0
            """);
        Runs.holds("1: in an empty house there is no room 0 and no door 0", """
            turnLock 0 = index
            addDoor 0 1 1 0 = index
            putCheese 0 1 = index
            begin 0 1 = index
            go 0 = index
            isSafe 0 = index
            cheeseIn 0 = index
            doorsOf 0 = index
            isLocked 0 = index
            isOpen 0 = index
            turnsUntilOpen 0 = index
            doorBetween 0 0 = index
            isWayOpen 0 0 = index
            distance 0 0 = index
            catArrives 0 = index
            mouseArrives 0 = index
            turnsFrom 0 0 = index
            play 1 = state
            """);
    }

    private static void addRoom() {
        Runs.holds("2: returns its number; terms: numbered from 0, at most 8", """
            addRoom false = 0
            addRoom true = 1
            addRoom true = 2
            addRoom false = 3
            addRoom false = 4
            addRoom false = 5
            addRoom false = 6
            rooms = 7
            addRoom true = 7
            rooms = 8
            """);
        Runs.holds("2: isSafe: whether a new room is safe", """
            addRoom true = 0
            isSafe 0 = true
            addRoom false = 1
            isSafe 1 = false
            isSafe 0 = true
            """);
        Runs.holds("2, terms: a new room has no cheese, at first, and no door", """
            addRoom false
            cheeseIn 0 = 0
            doorsOf 0 = 0
            addRoom true
            cheeseIn 1 = 0
            doorsOf 1 = 0
            distance 0 1 = -1
            """);
        Runs.holds("2: a room is added while a chase is on, which goes on", """
            rooms ..
            row
            begin 0 1 = 2
            stay 1
            addRoom true = 2
            turn = 1
            isOn = true
            catIn = 0
            mouseIn = 1
            turnsToCatch = 1
            addRoom false = 3
            safeNow = 2
            addDoor 1 3 1 0 = 1
            go 1 = true
            addRoom false = 4
            turn = 2
            """);
    }

    private static void addRoomRefused() {
        Runs.holds("2: throws IllegalStateException if there are 8", """
            rooms .......s
            addRoom false = state
            addRoom true = state
            rooms = 8
            isSafe 7 = true
            isSafe 0 = false
            begin 0 7
            addRoom true = state
            rooms = 8
            """);
    }

    private static void addDoor() {
        Runs.holds("3: returns its number; terms: numbered from 0, at most 14", """
            rooms ........
            all
            doors = 14
            doorBetween 0 1 = 0
            doorBetween 3 2 = 13
            """);
        Runs.holds("3: one and other: the first and the last room, in either order", """
            rooms ........
            addDoor 0 7 1 0 = 0
            addDoor 6 1 1 0 = 1
            addDoor 7 6 1 0 = 2
            doorBetween 7 0 = 0
            doorBetween 1 6 = 1
            doorBetween 6 7 = 2
            """);
        Runs.holds("3: a period of 1 to 4 and a rest of 0 to the period less 1", """
            rooms .....
            addDoor 0 1 1 0 = 0
            addDoor 0 2 2 0 = 1
            addDoor 0 3 2 1 = 2
            addDoor 0 4 3 0 = 3
            addDoor 1 2 3 1 = 4
            addDoor 1 3 3 2 = 5
            addDoor 1 4 4 0 = 6
            addDoor 2 3 4 1 = 7
            addDoor 2 4 4 2 = 8
            addDoor 3 4 4 3 = 9
            isOpen 0 = true
            isOpen 1 = false
            isOpen 2 = true
            isOpen 3 = false
            isOpen 4 = true
            isOpen 5 = true
            isOpen 6 = false
            isOpen 7 = true
            isOpen 8 = true
            isOpen 9 = true
            """);
        Runs.holds("3: a door that is added while a chase is on can be gone through at once", """
            rooms ..
            begin 0 1 = -1
            stay 1
            addDoor 1 0 2 0 = 0
            isOpen 0 = true
            turnsToCatch = 1
            go 1 = true
            """);
        Runs.holds("3, terms: doors may be between safe rooms, and a room may have none", """
            rooms ss.
            addDoor 0 1 1 0 = 0
            doorsOf 2 = 0
            """);
    }

    private static void addDoorWithNoSuchRoom() {
        Runs.holds("3: throws IndexOutOfBoundsException if there is no such room", """
            rooms ...
            addDoor -1 0 1 0 = index
            addDoor 0 -1 1 0 = index
            addDoor 3 0 1 0 = index
            addDoor 0 3 1 0 = index
            addDoor least 0 1 0 = index
            addDoor 0 least 1 0 = index
            addDoor greatest 0 1 0 = index
            addDoor 0 greatest 1 0 = index
            doors = 0
            addDoor 2 0 1 0 = 0
            addRoom false
            addDoor 0 3 1 0 = 1
            """);
        Runs.holds("3: throws IndexOutOfBoundsException if there is no such room, of eight", """
            rooms ........
            addDoor 8 0 1 0 = index
            addDoor 7 8 1 0 = index
            addDoor -1 7 1 0 = index
            """);
    }

    private static void addDoorWithWrongArguments() {
        Runs.holds("3: throws IllegalArgumentException if both are the same", """
            rooms ..s
            addDoor 0 0 1 0 = argument
            addDoor 2 2 4 3 = argument
            doors = 0
            """);
        Runs.holds("3: throws IllegalArgumentException if period is not 1 to 4", """
            rooms ..
            addDoor 0 1 0 0 = argument
            addDoor 0 1 5 0 = argument
            addDoor 0 1 5 4 = argument
            addDoor 0 1 -1 0 = argument
            addDoor 0 1 least 0 = argument
            addDoor 0 1 greatest 0 = argument
            doors = 0
            addDoor 0 1 4 0 = 0
            """);
        Runs.holds("3: throws IllegalArgumentException if rest is not 0 to period - 1", """
            rooms ..
            addDoor 0 1 1 -1 = argument
            addDoor 0 1 1 1 = argument
            addDoor 0 1 2 -1 = argument
            addDoor 0 1 2 2 = argument
            addDoor 0 1 3 3 = argument
            addDoor 0 1 4 4 = argument
            addDoor 0 1 4 -1 = argument
            addDoor 0 1 4 least = argument
            addDoor 0 1 4 greatest = argument
            doors = 0
            addDoor 0 1 4 3 = 0
            """);
    }

    private static void addDoorWhereThereCanBeNone() {
        Runs.holds("3: throws IllegalStateException if there are 14", """
            rooms ........
            all
            addDoor 6 7 1 0 = state
            addDoor 2 4 4 3 = state
            doors = 14
            doorBetween 6 7 = -1
            turnLock 13 = true
            addDoor 6 7 1 0 = state
            """);
        Runs.holds("3: throws IllegalStateException if a door joins them", """
            rooms ...
            addDoor 1 0 2 1 = 0
            addDoor 1 0 2 1 = state
            addDoor 0 1 2 1 = state
            addDoor 0 1 4 0 = state
            addDoor 1 2 2 1 = 1
            addDoor 2 1 2 1 = state
            turnLock 0 = true
            addDoor 1 0 2 1 = state
            addDoor 0 1 1 0 = state
            doors = 2
            addDoor 0 2 1 0 = 2
            """);
    }

    private static void addDoorNamesTheFirst() {
        Runs.holds("3, terms: no such room goes before what else is wrong", """
            rooms ..
            addDoor 2 2 1 0 = index
            addDoor -1 -1 1 0 = index
            addDoor 0 2 0 0 = index
            addDoor 2 0 1 1 = index
            addDoor 0 -1 5 -1 = index
            """);
        Runs.holds("3, terms: no such room goes before 14 doors", """
            rooms ........
            all
            addDoor 0 8 1 0 = index
            addDoor -1 7 1 0 = index
            """);
        Runs.holds("3, terms: wrong arguments go before 14 doors", """
            rooms ........
            all
            addDoor 7 7 1 0 = argument
            addDoor 6 7 5 0 = argument
            addDoor 6 7 3 3 = argument
            """);
        Runs.holds("3, terms: wrong arguments go before a door that joins them", """
            rooms ..
            row
            addDoor 0 1 0 0 = argument
            addDoor 1 0 5 0 = argument
            addDoor 1 0 1 1 = argument
            addDoor 0 1 2 -1 = argument
            """);
    }

    private static void turnLock() {
        Runs.holds("4: locks a door that is not locked, and unlocks one that is; returns whether it is then", """
            rooms ...
            row
            turnLock 1 = true
            isLocked 1 = true
            isLocked 0 = false
            turnLock 0 = true
            turnLock 1 = false
            isLocked 1 = false
            isLocked 0 = true
            turnLock 1 = true
            turnLock 1 = false
            """);
        Runs.holds("4: throws IndexOutOfBoundsException if there is no such door", """
            rooms ...
            turnLock 0 = index
            row
            turnLock -1 = index
            turnLock 2 = index
            turnLock least = index
            turnLock greatest = index
            turnLock 1 = true
            turnLock 2 = index
            """);
        Runs.holds("4: the last of 14 doors, and none behind it", """
            rooms ........
            all
            turnLock 13 = true
            turnLock 14 = index
            turnLock 13 = false
            """);
        Runs.holds("4, terms: a locked door is shut in all turns, an unlocked one in those of its rest", """
            rooms ..
            addDoor 0 1 2 0
            begin 0 1 = 2
            turnLock 0 = true
            stay 1
            isOpen 0 = false
            go 1 = state
            turnsToCatch = -1
            stay 1
            turnLock 0 = false
            isOpen 0 = false
            stay 1
            isOpen 0 = true
            turnLock 0 = true
            go 1 = state
            turnLock 0 = false
            go 1 = true
            turnLock 0 = true
            """);
    }

    private static void putCheese() {
        Runs.holds("5: many: how much more cheese it has from now on; returns how much it has then", """
            rooms .s
            putCheese 0 1 = 1
            putCheese 0 1 = 2
            putCheese 0 7 = 9
            cheeseIn 0 = 9
            cheeseIn 1 = 0
            putCheese 1 9 = 9
            cheeseIn 1 = 9
            """);
        Runs.holds("5: while a chase is on nobody eats by it, and the mouse eats of it next", """
            rooms ..
            putCheese 1 9
            begin 0 1
            putCheese 0 9 = 9
            eaten = 0
            stay 1
            cheeseIn 1 = 8
            putCheese 1 1 = 9
            eaten = 1
            putCheese 1 1 = state
            stay 2
            cheeseIn 1 = 8
            cheeseIn 0 = 9
            """);
    }

    private static void putCheeseRefused() {
        Runs.holds("5: throws IndexOutOfBoundsException if there is no such room", """
            rooms ..
            putCheese -1 1 = index
            putCheese 2 1 = index
            putCheese least 1 = index
            putCheese greatest 1 = index
            """);
        Runs.holds("5: throws IllegalArgumentException if many is not 1 to 9", """
            rooms .
            putCheese 0 0 = argument
            putCheese 0 10 = argument
            putCheese 0 -1 = argument
            putCheese 0 least = argument
            putCheese 0 greatest = argument
            cheeseIn 0 = 0
            """);
        Runs.holds("5: throws IllegalStateException if it would have more than 9", """
            rooms ..
            putCheese 0 8
            putCheese 0 2 = state
            putCheese 0 9 = state
            putCheese 0 1 = 9
            putCheese 0 1 = state
            cheeseIn 0 = 9
            putCheese 1 9 = 9
            """);
        Runs.holds("5, terms: no such room goes before a wrong many", """
            rooms .
            putCheese 1 0 = index
            putCheese -1 10 = index
            """);
        Runs.holds("5, terms: a wrong many goes before too much cheese", """
            rooms .
            putCheese 0 9
            putCheese 0 10 = argument
            putCheese 0 0 = argument
            putCheese 0 greatest = argument
            """);
    }

    private static void roomsAndDoors() {
        Runs.holds("10, 11: returns how many there are, those that were refused not counted", """
            rooms = 0
            doors = 0
            addRoom false
            rooms = 1
            addRoom true
            rooms = 2
            addDoor 0 1 5 0 = argument
            doors = 0
            addDoor 0 1 4 0
            doors = 1
            turnLock 0 = true
            doors = 1
            addDoor 0 1 4 0 = state
            doors = 1
            rooms = 2
            """);
        Runs.holds("10, 11: 8 rooms and 14 doors, and no more", """
            rooms ssssssss
            all
            addRoom false = state
            addDoor 6 7 1 0 = state
            rooms = 8
            doors = 14
            """);
    }

    private static void isSafe() {
        Runs.holds("18: whether it is safe, of the first and the last of eight", """
            rooms s.....ss
            isSafe 0 = true
            isSafe 1 = false
            isSafe 6 = true
            isSafe 7 = true
            """);
        Runs.holds("18: throws IndexOutOfBoundsException if there is no such room", """
            rooms s.
            isSafe -1 = index
            isSafe 2 = index
            isSafe 7 = index
            isSafe least = index
            isSafe greatest = index
            rooms ......
            isSafe 8 = index
            """);
    }

    private static void cheeseIn() {
        Runs.holds("19: how much cheese it has: 0 at first, 9 at most, 0 when all is eaten", """
            rooms .......s
            cheeseIn 7 = 0
            putCheese 7 9
            cheeseIn 7 = 9
            putCheese 6 1
            begin 0 6
            stay 1
            cheeseIn 6 = 0
            stay 2
            cheeseIn 6 = 0
            """);
        Runs.holds("19: throws IndexOutOfBoundsException if there is no such room", """
            rooms s.
            cheeseIn -1 = index
            cheeseIn 2 = index
            cheeseIn least = index
            cheeseIn greatest = index
            rooms ......
            cheeseIn 8 = index
            """);
    }

    private static void doorsOf() {
        Runs.holds("20: how many doors it has that are not locked, open or not", """
            rooms ........
            doorsOf 0 = 0
            all
            doorsOf 0 = 7
            doorsOf 7 = 2
            doorsOf 2 = 3
            turnLock 6 = true
            doorsOf 0 = 6
            doorsOf 7 = 1
            turnLock 12 = true
            doorsOf 7 = 0
            turnLock 6 = false
            doorsOf 7 = 1
            """);
        Runs.holds("20: a door that is shut in this turn counts", """
            rooms ..
            addDoor 0 1 2 0
            isOpen 0 = false
            doorsOf 0 = 1
            doorsOf 1 = 1
            """);
        Runs.holds("20: throws IndexOutOfBoundsException if there is no such room", """
            rooms s.
            row
            doorsOf -1 = index
            doorsOf 2 = index
            doorsOf least = index
            doorsOf greatest = index
            rooms ......
            doorsOf 8 = index
            """);
    }

    private static void isLocked() {
        Runs.holds("21: whether it is locked, not at first, and whether shut or not", """
            rooms ..
            addDoor 0 1 2 0
            isLocked 0 = false
            isOpen 0 = false
            turnLock 0
            isLocked 0 = true
            turnLock 0
            isLocked 0 = false
            """);
        Runs.holds("21: throws IndexOutOfBoundsException if there is no such door", """
            rooms ........
            isLocked 0 = index
            all
            isLocked 13 = false
            isLocked 14 = index
            isLocked -1 = index
            isLocked least = index
            isLocked greatest = index
            """);
    }

    private static void isOpen() {
        Runs.holds("22, terms: shut in the turns that leave the rest: a period of 4 and a rest of 3", """
            rooms ..
            addDoor 0 1 4 3
            begin 0 1
            stay 2
            isOpen 0 = true
            stay 1
            isOpen 0 = false
            stay 1
            isOpen 0 = true
            stay 3
            isOpen 0 = false
            stay 4
            isOpen 0 = false
            stay 1
            isOpen 0 = true
            stay 3
            isOpen 0 = false
            turn = 15
            """);
        Runs.holds("22, terms: shut in the turns that leave the rest: a period of 3 and a rest of 0", """
            rooms ..
            addDoor 0 1 3 0
            isOpen 0 = false
            begin 0 1
            isOpen 0 = false
            stay 1
            isOpen 0 = true
            stay 1
            isOpen 0 = true
            stay 1
            isOpen 0 = false
            stay 9
            isOpen 0 = false
            turn = 12
            """);
        Runs.holds("22, terms: with a period of 1 it is open in all turns", """
            rooms ..
            addDoor 0 1 1 0
            isOpen 0 = true
            begin 0 1
            isOpen 0 = true
            stay 1
            isOpen 0 = true
            stay 1
            isOpen 0 = true
            """);
        Runs.holds("22: throws IndexOutOfBoundsException if there is no such door", """
            rooms ........
            isOpen 0 = index
            all
            isOpen 13 = true
            isOpen 14 = index
            isOpen -1 = index
            isOpen least = index
            isOpen greatest = index
            """);
    }

    private static void isOpenWithoutChase() {
        Runs.holds("22, 23, 25: in this turn, that behind the latest chase if none is on", """
            rooms ....
            row
            addDoor 0 2 2 0
            addDoor 0 3 3 2
            isOpen 3 = false
            isOpen 4 = true
            begin 0 1
            go 0 = true
            turn = 1
            isOpen 3 = true
            isOpen 4 = true
            begin 0 1
            isOpen 3 = false
            stay 1
            go 1 = true
            turn = 2
            isOpen 3 = false
            isOpen 4 = false
            turnsUntilOpen 4 = 1
            isWayOpen 3 0 = false
            isWayOpen 2 0 = false
            """);
    }

    private static void turnsUntilOpen() {
        Runs.holds("23: 0 if in this turn, else in how many it is", """
            rooms ...
            addDoor 0 1 2 1
            addDoor 1 2 4 0
            turnsUntilOpen 0 = 0
            turnsUntilOpen 1 = 1
            begin 0 1
            stay 1
            turnsUntilOpen 0 = 1
            turnsUntilOpen 1 = 0
            stay 1
            turnsUntilOpen 0 = 0
            turnsUntilOpen 1 = 0
            stay 2
            turnsUntilOpen 0 = 0
            turnsUntilOpen 1 = 1
            """);
        Runs.holds("23: -1 if it is locked, whether it would be open or shut", """
            rooms ...
            addDoor 0 1 2 1
            addDoor 1 2 2 0
            turnLock 0
            turnLock 1
            turnsUntilOpen 0 = -1
            turnsUntilOpen 1 = -1
            turnLock 1
            turnsUntilOpen 1 = 1
            turnsUntilOpen 0 = -1
            """);
        Runs.holds("23: throws IndexOutOfBoundsException if there is no such door", """
            rooms ........
            turnsUntilOpen 0 = index
            all
            turnsUntilOpen 13 = 0
            turnsUntilOpen 14 = index
            turnsUntilOpen -1 = index
            turnsUntilOpen least = index
            turnsUntilOpen greatest = index
            """);
    }

    private static void doorBetween() {
        Runs.holds("24: the door that joins both, locked or shut or not; -1 if none does", """
            rooms ...s
            addDoor 2 1 2 0
            addDoor 0 3 1 0
            doorBetween 2 1 = 0
            doorBetween 1 2 = 0
            doorBetween 3 0 = 1
            doorBetween 0 1 = -1
            doorBetween 0 2 = -1
            turnLock 0
            doorBetween 1 2 = 0
            """);
        Runs.holds("24: no door joins a room to itself", """
            rooms ..
            row
            doorBetween 0 0 = -1
            doorBetween 1 1 = -1
            """);
        Runs.holds("24: throws IndexOutOfBoundsException if there is no such room", """
            rooms ..
            row
            doorBetween -1 0 = index
            doorBetween 0 -1 = index
            doorBetween 2 0 = index
            doorBetween 0 2 = index
            doorBetween 2 2 = index
            doorBetween least greatest = index
            rooms ......
            doorBetween 8 7 = index
            doorBetween 7 8 = index
            """);
    }

    private static void isWayOpen() {
        Runs.holds("25: whether a door joins both that is open in this turn", """
            rooms ...s
            addDoor 0 1 2 0
            addDoor 1 2 2 1
            addDoor 2 3 1 0
            isWayOpen 0 1 = false
            isWayOpen 1 0 = false
            isWayOpen 1 2 = true
            isWayOpen 2 1 = true
            isWayOpen 2 3 = true
            isWayOpen 0 2 = false
            isWayOpen 0 3 = false
            begin 0 1
            stay 1
            isWayOpen 0 1 = true
            isWayOpen 2 1 = false
            isWayOpen 2 3 = true
            turnLock 0
            isWayOpen 0 1 = false
            """);
        Runs.holds("25: no door joins a room to itself", """
            rooms ..
            row
            isWayOpen 0 0 = false
            isWayOpen 1 1 = false
            """);
        Runs.holds("25: throws IndexOutOfBoundsException if there is no such room", """
            rooms ..
            row
            isWayOpen -1 0 = index
            isWayOpen 0 -1 = index
            isWayOpen 2 0 = index
            isWayOpen 0 2 = index
            isWayOpen 2 2 = index
            isWayOpen least greatest = index
            rooms ......
            isWayOpen 8 7 = index
            isWayOpen 7 8 = index
            """);
    }

    private static void distance() {
        Runs.holds("26: through how many doors at least: 0 to itself, 7 at most", """
            rooms ........
            distance 7 7 = 0
            row
            distance 0 0 = 0
            distance 0 1 = 1
            distance 0 7 = 7
            distance 7 0 = 7
            distance 6 0 = 6
            """);
        Runs.holds("26: the least of several ways", """
            rooms ......
            ring
            distance 0 5 = 1
            distance 0 4 = 2
            distance 0 3 = 3
            distance 3 0 = 3
            turnLock 5
            distance 0 5 = 5
            distance 0 4 = 4
            """);
        Runs.holds("26: in a house of 8 rooms and 14 doors", """
            rooms ........
            all
            distance 2 3 = 1
            distance 3 4 = 2
            distance 7 6 = 2
            distance 7 7 = 0
            turnLock 6
            distance 0 7 = 2
            turnLock 12
            distance 0 7 = -1
            """);
        Runs.holds("26: whether they are open or not, and rooms safe or not", """
            rooms .ss.
            addDoor 0 1 2 0
            addDoor 1 2 4 0
            addDoor 2 3 3 0
            isOpen 0 = false
            distance 0 3 = 3
            distance 3 1 = 2
            """);
        Runs.holds("26: doors that are not locked; -1 if there is no way", """
            rooms ...
            distance 0 2 = -1
            row
            distance 0 2 = 2
            turnLock 1
            distance 0 2 = -1
            distance 2 0 = -1
            distance 2 1 = -1
            distance 2 2 = 0
            distance 0 1 = 1
            turnLock 1
            distance 2 0 = 2
            """);
        Runs.holds("26: throws IndexOutOfBoundsException if there is no such room", """
            rooms ..
            row
            distance -1 0 = index
            distance 0 -1 = index
            distance 2 0 = index
            distance 0 2 = index
            distance 2 2 = index
            distance least greatest = index
            rooms ......
            distance 8 7 = index
            distance 7 8 = index
            """);
    }
}
