/** The example of README.md. */
public final class Example {
    public static void main(String[] args) {
        DoorChase x = new DoorChase();
        x.addRoom(false);                          // the room 0
        x.addRoom(false);                          // the room 1
        x.addRoom(false);                          // the room 2
        x.addRoom(true);                           // the room 3, safe from the cat
        x.addDoor(0, 1, 1, 0);                     // the door 0, open in all turns
        x.addDoor(1, 2, 3, 0);                     // the door 1, shut in the turns 0, 3, 6, ..
        x.addDoor(2, 3, 4, 2);                     // the door 2, shut in the turns 2, 6, 10, ..
        x.putCheese(2, 5);
        System.out.println(x.begin(0, 2));         // -1: the mouse gets to the safe room
        System.out.println(x.bestDoorToLock());    // -1: never can't be made later
        System.out.println(x.turnLock(2));         // true: the door 2 is locked now
        System.out.println(x.turnsToCatch());      // 6: now the mouse can't get away
        System.out.println(x.bestDoorToLock());    // 0: with the door 0 locked too, the cat never gets to it
        System.out.println(x.catArrives(2));       // 6: the door 1 is shut in the turn 3
        System.out.println(x.mouseArrives(3));     // -1: the door 2 is locked
        System.out.println(x.pairsCaught());       // 6: all pairs of the rooms 0, 1 and 2
        System.out.println(x.longestChase());      // 6: the greatest turnsFrom() of these
        try {
            x.go(1);
        } catch (IllegalStateException e) {
            System.out.println("refused");         // refused: the door 1 is shut in the turn 0
        }
        System.out.println(x.go(2));               // false: the mouse stays, and isn't caught by this
        System.out.println(x.eaten());             // 1: it has eaten one cheese of the room 2
        System.out.println(x.bestGo());            // 0: the cat had best stay in this turn
        System.out.println(x.play(60));            // 5: both play best until the mouse is caught
        System.out.println(x.isCaught());          // true
        System.out.println(x.turn());              // 6: it was caught in the turn 5
        System.out.println(x.cheeseIn(2));         // 2: it went or stayed there in the turns 0, 2 and 4
    }
}
