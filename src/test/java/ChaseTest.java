/** Promises 6 to 9 and 12 to 17: how a chase begins, goes on and ends. */
final class ChaseTest {
    private ChaseTest() {
    }

    public static void main(String[] args) {
        begin();
        beginWrongly();
        beginAnew();
        go();
        goWrongly();
        goThroughShutDoors();
        safeRooms();
        mouseGoesToCat();
        eating();
        play();
        playEats();
        playWrongly();
        afterTheEnd();
        Due.end("ChaseTest");
    }

    private static void begin() {
        DoorChase x = Houses.row("...");
        Due.is("begin", x.begin(0, 2), 4);
        Due.is("isOn", x.isOn(), true);
        Due.is("isCaught", x.isCaught(), false);
        Due.is("catIn", x.catIn(), 0);
        Due.is("mouseIn", x.mouseIn(), 2);
        Due.is("turn", x.turn(), 0);
        Due.is("isCatsTurn", x.isCatsTurn(), false);
        Due.is("eaten", x.eaten(), 0);
        DoorChase y = Houses.row("..s");
        Due.is("begin with the mouse in a safe room", y.begin(1, 2), -1);
        Due.is("mouseIn a safe room", y.mouseIn(), 2);
    }

    private static void beginWrongly() {
        DoorChase x = Houses.row("..s");
        Due.index("cat -1", () -> x.begin(-1, 0));
        Due.index("mouse -1", () -> x.begin(0, -1));
        Due.index("cat 3", () -> x.begin(3, 0));
        Due.index("mouse 3, the cat in a safe room", () -> x.begin(2, 3));
        Due.argument("both the same", () -> x.begin(1, 1));
        Due.argument("cat in a safe room", () -> x.begin(2, 0));
        Due.is("isOn after all that", x.isOn(), false);
        x.putCheese(1, 3);
        x.begin(0, 1);
        x.go(1);
        Due.argument("both the same, a chase being on", () -> x.begin(1, 1));
        Due.is("turn after that", x.turn(), 1);
        Due.is("eaten after that", x.eaten(), 1);
        Due.is("catIn after that", x.catIn(), 0);
        Due.is("mouseIn after that", x.mouseIn(), 1);
        Due.is("isOn after that", x.isOn(), true);
    }

    private static void beginAnew() {
        DoorChase x = Houses.row("....");
        x.putCheese(3, 5);
        x.begin(0, 3);
        x.go(3);
        x.go(1);
        x.go(3);
        Due.is("eaten in the first", x.eaten(), 2);
        x.begin(2, 0);
        Due.is("turn in the second", x.turn(), 0);
        Due.is("eaten in the second", x.eaten(), 0);
        Due.is("cheese left", x.cheeseIn(3), 3);
        Due.is("catIn", x.catIn(), 2);
        Due.is("mouseIn", x.mouseIn(), 0);
    }

    private static void go() {
        DoorChase x = Houses.row("...");
        x.begin(0, 2);
        Due.is("the mouse stays", x.go(2), false);
        Due.is("turn 1", x.turn(), 1);
        Due.is("isCatsTurn", x.isCatsTurn(), true);
        Due.is("the cat goes", x.go(1), false);
        Due.is("catIn", x.catIn(), 1);
        Due.is("mouseIn", x.mouseIn(), 2);
        Due.is("isCatsTurn again", x.isCatsTurn(), false);
        Due.is("the mouse stays again", x.go(2), false);
        Due.is("the cat catches", x.go(2), true);
        Due.is("isCaught", x.isCaught(), true);
        Due.is("isOn", x.isOn(), false);
        Due.is("turn", x.turn(), 4);
        Due.is("catIn after", x.catIn(), -1);
        Due.is("mouseIn after", x.mouseIn(), -1);
        Due.is("isCatsTurn after", x.isCatsTurn(), false);
    }

    private static void goWrongly() {
        DoorChase x = Houses.row("....");
        Due.index("no such room, no chase", () -> x.go(4));
        Due.index("room -1, no chase", () -> x.go(-1));
        Due.state("no chase", () -> x.go(0));
        x.begin(0, 2);
        Due.index("no such room", () -> x.go(4));
        Due.index("room -1", () -> x.go(-1));
        Due.state("no door to it", () -> x.go(0));
        Due.is("turn after that", x.turn(), 0);
        Due.is("mouseIn after that", x.mouseIn(), 2);
        x.go(3);
        Due.state("where only the mouse can go", () -> x.go(2));
        Due.state("where the mouse is", () -> x.go(3));
        Due.is("turn after all that", x.turn(), 1);
        Due.is("catIn after all that", x.catIn(), 0);
    }

    private static void goThroughShutDoors() {
        DoorChase x = Houses.withRooms("...");
        x.addDoor(0, 1, 2, 0);
        x.addDoor(1, 2, 2, 1);
        x.begin(0, 1);
        Due.state("the mouse through a shut door", () -> x.go(0));
        Due.is("the mouse through an open door", x.go(2), false);
        Due.is("the cat through an open door", x.go(1), false);
        x.go(2);
        Due.state("the cat through a shut door", () -> x.go(2));
        Due.is("the cat stays", x.go(1), false);
        x.turnLock(1);
        Due.state("the mouse through a locked door", () -> x.go(1));
        x.turnLock(1);
        Due.is("the mouse through it, unlocked", x.go(1), true);
    }

    private static void safeRooms() {
        DoorChase x = Houses.row("..s.");
        x.begin(1, 3);
        Due.is("the mouse into a safe room", x.go(2), false);
        Due.state("the cat into a safe room with the mouse", () -> x.go(2));
        x.go(1);
        x.go(3);
        Due.state("the cat into an empty safe room", () -> x.go(2));
        Due.is("catIn", x.catIn(), 1);
    }

    private static void mouseGoesToCat() {
        DoorChase x = Houses.row("..");
        x.putCheese(0, 2);
        x.begin(0, 1);
        Due.is("the mouse goes to the cat", x.go(0), true);
        Due.is("isCaught", x.isCaught(), true);
        Due.is("isOn", x.isOn(), false);
        Due.is("turn", x.turn(), 1);
        Due.is("isCatsTurn, no chase being on", x.isCatsTurn(), true);
        Due.is("eaten", x.eaten(), 0);
        Due.is("cheese left", x.cheeseIn(0), 2);
    }

    private static void eating() {
        DoorChase x = Houses.row("....s");
        x.putCheese(1, 2);
        x.putCheese(3, 1);
        x.putCheese(4, 1);
        x.begin(0, 3);
        x.go(3);
        Due.is("eaten, having stayed", x.eaten(), 1);
        Due.is("cheese there", x.cheeseIn(3), 0);
        x.go(1);
        Due.is("cheese where the cat went", x.cheeseIn(1), 2);
        Due.is("eaten by no cat", x.eaten(), 1);
        x.go(3);
        Due.is("eaten where there is none", x.eaten(), 1);
        x.go(1);
        x.go(4);
        Due.is("eaten in a safe room", x.eaten(), 2);
        Due.is("cheese in a safe room", x.cheeseIn(4), 0);
        x.go(1);
        x.putCheese(4, 1);
        x.go(4);
        Due.is("eaten of what was put there since", x.eaten(), 3);
    }

    private static void play() {
        DoorChase x = Houses.row("...");
        x.begin(0, 2);
        Due.is("play 1", x.play(1), 1);
        Due.is("turn then", x.turn(), 1);
        Due.is("mouseIn then", x.mouseIn(), 2);
        Due.is("play 60", x.play(60), 3);
        Due.is("isCaught", x.isCaught(), true);
        Due.is("turn", x.turn(), 4);
        DoorChase y = Houses.ring("....");
        y.begin(0, 2);
        Due.is("play 60 where the mouse is never caught", y.play(60), 60);
        Due.is("turn after 60", y.turn(), 60);
        Due.is("isOn after 60", y.isOn(), true);
        Due.is("play 2", y.play(2), 2);
        Due.is("turn after 62", y.turn(), 62);
    }

    private static void playEats() {
        DoorChase x = Houses.row("..s");
        x.putCheese(2, 9);
        x.begin(0, 1);
        Due.is("play 5", x.play(5), 5);
        Due.is("mouseIn", x.mouseIn(), 2);
        Due.is("catIn", x.catIn(), 1);
        Due.is("eaten in the turns 0, 2 and 4", x.eaten(), 3);
        Due.is("cheese left", x.cheeseIn(2), 6);
    }

    private static void playWrongly() {
        DoorChase x = Houses.ring("....");
        Due.argument("most 0, no chase", () -> x.play(0));
        Due.argument("most 61, no chase", () -> x.play(61));
        Due.state("no chase", () -> x.play(1));
        x.begin(0, 2);
        Due.argument("most 0", () -> x.play(0));
        Due.argument("most 61", () -> x.play(61));
        Due.argument("most far too small", () -> x.play(Integer.MIN_VALUE));
        Due.is("turn after all that", x.turn(), 0);
    }

    private static void afterTheEnd() {
        DoorChase x = Houses.row("..s");
        x.putCheese(1, 1);
        x.begin(0, 1);
        x.go(1);
        x.go(1);
        Due.is("eaten stays told", x.eaten(), 1);
        Due.is("turn stays told", x.turn(), 2);
        Due.state("go after the end", () -> x.go(0));
        Due.state("play after the end", () -> x.play(1));
        Due.is("isCaught stays told", x.isCaught(), true);
        x.begin(1, 2);
        Due.is("isCaught in a new chase", x.isCaught(), false);
        Due.is("eaten in a new chase", x.eaten(), 0);
        Due.is("turn in a new chase", x.turn(), 0);
    }
}
