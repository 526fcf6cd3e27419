/** Promises 1 to 5, 10, 11 and 18 to 26: rooms, doors, locks and cheese. */
final class HouseTest {
    private HouseTest() {
    }

    public static void main(String[] args) {
        newObject();
        addRoom();
        addDoor();
        addDoorWrongly();
        mostDoors();
        turnLock();
        putCheese();
        whatRoomsAre();
        doorsOf();
        openByTurns();
        doorBetween();
        isWayOpen();
        distance();
        Due.end("HouseTest");
    }

    private static void newObject() {
        DoorChase x = new DoorChase();
        Due.is("turn of a new one", x.turn(), 0);
        Due.is("rooms of a new one", x.rooms(), 0);
        Due.is("doors of a new one", x.doors(), 0);
        Due.is("isOn of a new one", x.isOn(), false);
        Due.is("isCaught of a new one", x.isCaught(), false);
        Due.is("isCatsTurn of a new one", x.isCatsTurn(), false);
        Due.is("catIn of a new one", x.catIn(), -1);
        Due.is("mouseIn of a new one", x.mouseIn(), -1);
        Due.is("eaten of a new one", x.eaten(), 0);
        DoorChase other = new DoorChase();
        x.addRoom(false);
        Due.is("rooms of another object", other.rooms(), 0);
    }

    private static void addRoom() {
        DoorChase x = new DoorChase();
        for (int room = 0; room < 8; room++) {
            Due.is("addRoom " + room, x.addRoom(room % 3 == 1), room);
            Due.is("rooms then", x.rooms(), room + 1);
        }
        Due.state("a ninth room", () -> x.addRoom(false));
        Due.is("rooms after a ninth", x.rooms(), 8);
        for (int room = 0; room < 8; room++) {
            Due.is("isSafe " + room, x.isSafe(room), room % 3 == 1);
        }
    }

    private static void addDoor() {
        DoorChase x = Houses.withRooms("....s...");
        Due.is("first door", x.addDoor(0, 7, 1, 0), 0);
        Due.is("second door", x.addDoor(7, 1, 4, 3), 1);
        Due.is("third door, to a safe room", x.addDoor(3, 4, 4, 0), 2);
        Due.is("doors", x.doors(), 3);
        for (int period = 1; period <= 4; period++) {
            for (int rest = 0; rest < period; rest++) {
                DoorChase y = Houses.withRooms("..");
                Due.is("door with " + period + ", " + rest, y.addDoor(1, 0, period, rest), 0);
            }
        }
    }

    private static void addDoorWrongly() {
        DoorChase x = Houses.withRooms("...");
        x.addDoor(0, 1, 2, 1);
        Due.index("one too small", () -> x.addDoor(-1, 0, 1, 0));
        Due.index("other too small", () -> x.addDoor(0, -1, 1, 0));
        Due.index("one too great", () -> x.addDoor(3, 0, 1, 0));
        Due.index("other too great", () -> x.addDoor(0, 3, 1, 0));
        Due.index("far off", () -> x.addDoor(Integer.MIN_VALUE, Integer.MAX_VALUE, 1, 0));
        Due.index("no such room, the same, no such period", () -> x.addDoor(3, 3, 9, 9));
        Due.argument("both the same", () -> x.addDoor(2, 2, 1, 0));
        Due.argument("period 0", () -> x.addDoor(1, 2, 0, 0));
        Due.argument("period 5", () -> x.addDoor(1, 2, 5, 0));
        Due.argument("period -1", () -> x.addDoor(1, 2, -1, 0));
        Due.argument("rest -1", () -> x.addDoor(1, 2, 3, -1));
        for (int period = 1; period <= 4; period++) {
            int tooMuch = period;
            Due.argument("rest " + period, () -> x.addDoor(1, 2, tooMuch, tooMuch));
        }
        Due.argument("no such rest, and a door joins them", () -> x.addDoor(0, 1, 2, 2));
        Due.state("a door joins them", () -> x.addDoor(0, 1, 1, 0));
        Due.state("a door joins them the other way", () -> x.addDoor(1, 0, 1, 0));
        x.turnLock(0);
        Due.state("a locked door joins them", () -> x.addDoor(1, 0, 1, 0));
        Due.is("doors after all that", x.doors(), 1);
        Due.is("doorBetween after all that", x.doorBetween(1, 2), -1);
    }

    private static void mostDoors() {
        DoorChase x = Houses.withRooms("........");
        int door = 0;
        for (int one = 0; one < 8 && door < 14; one++) {
            for (int other = one + 1; other < 8 && door < 14; other++) {
                Due.is("door " + door, x.addDoor(one, other, 1 + door % 4, 0), door);
                door++;
            }
        }
        Due.is("doors", x.doors(), 14);
        Due.index("a 15th door to no such room", () -> x.addDoor(6, 8, 1, 0));
        Due.argument("a 15th door with no such period", () -> x.addDoor(6, 7, 0, 0));
        Due.state("a 15th door", () -> x.addDoor(6, 7, 1, 0));
        Due.is("doors after a 15th", x.doors(), 14);
        Due.is("doorBetween after a 15th", x.doorBetween(6, 7), -1);
        Due.is("lock of the last door", x.turnLock(13), true);
        Due.index("lock of a 15th door", () -> x.turnLock(14));
    }

    private static void turnLock() {
        DoorChase x = Houses.row("...");
        Due.is("not locked at first", x.isLocked(1), false);
        Due.is("turnLock", x.turnLock(1), true);
        Due.is("locked", x.isLocked(1), true);
        Due.is("the other one not", x.isLocked(0), false);
        Due.is("turnLock again", x.turnLock(1), false);
        Due.is("not locked", x.isLocked(1), false);
        Due.index("turnLock -1", () -> x.turnLock(-1));
        Due.index("turnLock 2", () -> x.turnLock(2));
        Due.index("isLocked -1", () -> x.isLocked(-1));
        Due.index("isLocked 2", () -> x.isLocked(2));
        Due.index("isLocked far off", () -> x.isLocked(Integer.MAX_VALUE));
    }

    private static void putCheese() {
        DoorChase x = Houses.withRooms(".s");
        Due.is("at first", x.cheeseIn(0), 0);
        Due.is("put 4", x.putCheese(0, 4), 4);
        Due.is("put 5 more", x.putCheese(0, 5), 9);
        Due.is("put 9 at once, in a safe room", x.putCheese(1, 9), 9);
        Due.state("one more than 9", () -> x.putCheese(0, 1));
        Due.argument("0, and too much", () -> x.putCheese(0, 0));
        Due.argument("10", () -> x.putCheese(0, 10));
        Due.argument("-1", () -> x.putCheese(0, -1));
        Due.argument("far too much", () -> x.putCheese(0, Integer.MAX_VALUE));
        Due.index("no such room, no such many", () -> x.putCheese(2, 0));
        Due.index("room -1", () -> x.putCheese(-1, 1));
        Due.is("cheese after all that", x.cheeseIn(0), 9);
        DoorChase y = Houses.withRooms(".");
        Due.is("put 1", y.putCheese(0, 1), 1);
        Due.state("1 and 9", () -> y.putCheese(0, 9));
        Due.is("still 1", y.cheeseIn(0), 1);
    }

    private static void whatRoomsAre() {
        DoorChase x = Houses.withRooms(".s");
        Due.is("isSafe 0", x.isSafe(0), false);
        Due.is("isSafe 1", x.isSafe(1), true);
        Due.index("isSafe -1", () -> x.isSafe(-1));
        Due.index("isSafe 2", () -> x.isSafe(2));
        Due.index("cheeseIn -1", () -> x.cheeseIn(-1));
        Due.index("cheeseIn 2", () -> x.cheeseIn(2));
        Due.index("doorsOf -1", () -> x.doorsOf(-1));
        Due.index("doorsOf 2", () -> x.doorsOf(2));
    }

    private static void doorsOf() {
        DoorChase x = Houses.row(".s..");
        x.addDoor(3, 1, 4, 0);
        Due.is("doorsOf 0", x.doorsOf(0), 1);
        Due.is("doorsOf 1, one of them shut", x.doorsOf(1), 3);
        x.turnLock(0);
        Due.is("doorsOf 0 locked", x.doorsOf(0), 0);
        Due.is("doorsOf 1 with one locked", x.doorsOf(1), 2);
        Due.is("doorsOf 2", x.doorsOf(2), 2);
    }

    // Each period and rest in 13 turns, and each of them locked too.
    private static void openByTurns() {
        for (int period = 1; period <= 4; period++) {
            for (int rest = 0; rest < period; rest++) {
                DoorChase x = Houses.withRooms(".s..");
                x.addDoor(2, 3, period, rest);
                x.begin(0, 1);
                for (int turn = 0; turn < 13; turn++) {
                    String when = "period " + period + ", rest " + rest + ", turn " + turn + ": ";
                    boolean isOpen = period == 1 || turn % period != rest;
                    Due.is(when + "turn", x.turn(), turn);
                    Due.is(when + "isOpen", x.isOpen(0), isOpen);
                    Due.is(when + "isWayOpen", x.isWayOpen(3, 2), isOpen);
                    Due.is(when + "turnsUntilOpen", x.turnsUntilOpen(0), isOpen ? 0 : 1);
                    x.turnLock(0);
                    Due.is(when + "isOpen, locked", x.isOpen(0), false);
                    Due.is(when + "isWayOpen, locked", x.isWayOpen(2, 3), false);
                    Due.is(when + "turnsUntilOpen, locked", x.turnsUntilOpen(0), -1);
                    x.turnLock(0);
                    Houses.passTurn(x);
                }
            }
        }
        DoorChase x = Houses.row("..");
        Due.index("isOpen -1", () -> x.isOpen(-1));
        Due.index("isOpen 1", () -> x.isOpen(1));
        Due.index("turnsUntilOpen -1", () -> x.turnsUntilOpen(-1));
        Due.index("turnsUntilOpen 1", () -> x.turnsUntilOpen(1));
    }

    private static void doorBetween() {
        DoorChase x = Houses.row("...");
        Due.is("doorBetween 0, 1", x.doorBetween(0, 1), 0);
        Due.is("doorBetween 2, 1", x.doorBetween(2, 1), 1);
        Due.is("doorBetween 0, 2", x.doorBetween(0, 2), -1);
        Due.is("doorBetween 1, 1", x.doorBetween(1, 1), -1);
        x.turnLock(0);
        Due.is("doorBetween, locked", x.doorBetween(1, 0), 0);
        Due.index("doorBetween -1, 0", () -> x.doorBetween(-1, 0));
        Due.index("doorBetween 0, -1", () -> x.doorBetween(0, -1));
        Due.index("doorBetween 3, 0", () -> x.doorBetween(3, 0));
        Due.index("doorBetween 0, 3", () -> x.doorBetween(0, 3));
    }

    private static void isWayOpen() {
        DoorChase x = Houses.row("...");
        Due.is("isWayOpen 0, 1", x.isWayOpen(0, 1), true);
        Due.is("isWayOpen 0, 2", x.isWayOpen(0, 2), false);
        Due.is("isWayOpen 1, 1", x.isWayOpen(1, 1), false);
        Due.index("isWayOpen -1, 0", () -> x.isWayOpen(-1, 0));
        Due.index("isWayOpen 0, -1", () -> x.isWayOpen(0, -1));
        Due.index("isWayOpen 3, 0", () -> x.isWayOpen(3, 0));
        Due.index("isWayOpen 0, 3", () -> x.isWayOpen(0, 3));
    }

    private static void distance() {
        DoorChase x = Houses.row("..s.....");
        Due.is("distance 0, 0", x.distance(0, 0), 0);
        Due.is("distance 0, 7, through a safe room", x.distance(0, 7), 7);
        Due.is("distance 7, 0", x.distance(7, 0), 7);
        x.addDoor(7, 1, 2, 0);
        Due.is("distance 0, 7, by a door that is shut", x.distance(0, 7), 2);
        Due.is("distance 0, 5, the other way round", x.distance(0, 5), 4);
        x.turnLock(7);
        Due.is("distance 0, 7, that door locked", x.distance(0, 7), 7);
        x.turnLock(0);
        Due.is("distance 0, 1, no way", x.distance(0, 1), -1);
        Due.is("distance 7, 0, no way", x.distance(7, 0), -1);
        Due.is("distance 0, 0, all locked", x.distance(0, 0), 0);
        Due.index("distance -1, 0", () -> x.distance(-1, 0));
        Due.index("distance 0, -1", () -> x.distance(0, -1));
        Due.index("distance 8, 0", () -> x.distance(8, 0));
        Due.index("distance 0, 8", () -> x.distance(0, 8));
    }
}
