import java.util.function.Consumer;

/** Promise 2, the edges: each range, the first turn, the fourth tank and the touch, from both sides. */
public final class EnterEdgesTest {
    private static final Checks CHECKS = new Checks();
    private static final int LEAST = Integer.MIN_VALUE;
    private static final int MOST = Integer.MAX_VALUE;

    private static String call(int x, int y, int heading) {
        return "enter(" + x + ", " + y + ", " + heading + ")";
    }

    private static void accepted(int x, int y, int heading) {
        new Scene(CHECKS, call(x, y, heading)).tank(x, y, heading).place(0, x, y).state(0, Scene.HEADING, heading)
            .count(Scene.TANKS, 1);
    }

    private static void refused(String why, Consumer<Scene> setUp, int x, int y, int heading) {
        Twins.refused(CHECKS, why + ": " + call(x, y, heading), setUp, arena -> arena.enter(x, y, heading));
    }

    private static void outOfRange(int x, int y, int heading) {
        refused("none there", scene -> { }, x, y, heading);
        refused("one there", scene -> scene.tank(40, 40, 3, Scene.SPEED, 2, 0), x, y, heading);
    }

    /** "the whole place x, y (2 .. 62 both)": x. */
    private static void rangeOfX() {
        accepted(2, 30, 0);
        accepted(62, 30, 0);
        for (int x : new int[] {LEAST, -2, 0, 1, 63, 64, MOST}) {
            outOfRange(x, 30, 0);
        }
    }

    /** "the whole place x, y (2 .. 62 both)": y. */
    private static void rangeOfY() {
        accepted(30, 2, 0);
        accepted(30, 62, 0);
        for (int y : new int[] {LEAST, -2, 0, 1, 63, 64, MOST}) {
            outOfRange(30, y, 0);
        }
    }

    private static void corners() {
        accepted(2, 2, 5);
        accepted(2, 62, 3);
        accepted(62, 2, 7);
        accepted(62, 62, 1);
        outOfRange(1, 1, 0);
        outOfRange(63, 63, 0);
    }

    /** "with the heading (0 .. 7)". */
    private static void rangeOfHeading() {
        for (int heading = 0; heading <= 7; heading++) {
            accepted(30, 30, heading);
        }
        for (int heading : new int[] {LEAST, -8, -1, 8, 15, MOST}) {
            outOfRange(30, 30, heading);
        }
    }

    /** "a turn was made since the start": a refused turn is none, and behind a restart none was made. */
    private static void turnMade() {
        Scene scene = new Scene(CHECKS, "no turn made").tank(10, 10, 0);
        CHECKS.due("a turn of one", scene.arena.turn(), TankArena.REFUSED);
        scene.tank(20, 10, 0).turns(1);
        CHECKS.due("restart", scene.arena.restart(), 1);
        scene.tank(30, 10, 0);

        refused("one turn made", s -> s.tank(10, 10, 0).tank(20, 10, 0).turns(1), 30, 10, 6);
        refused("two turns made", s -> s.tank(10, 10, 0).tank(20, 10, 0).turns(2), 30, 10, 6);
        refused("a turn behind a restart", s -> {
            s.tank(10, 10, 0).tank(20, 10, 0).turns(1).arena.restart();
            s.turns(1);
        }, 30, 10, 0);
    }

    private static Scene four(Scene scene) {
        return scene.tank(10, 10, 0, Scene.SPEED, 1, 0).tank(20, 10, 1).tank(30, 10, 2).tank(40, 10, 3);
    }

    /** "4 are there": the fourth is entered, a fifth is not, behind a restart neither. */
    private static void fourThere() {
        four(new Scene(CHECKS, "the fourth")).count(Scene.TANKS, 4).place(3, 40, 10);
        refused("four there", EnterEdgesTest::four, 50, 50, 6);
        refused("four there again", s -> four(s).turns(3).arena.restart(), 50, 50, 6);
    }

    /** "it would touch one": "both the sizes of dx and dy are below 4". */
    private static void touching() {
        for (int dx = -5; dx <= 5; dx++) {
            for (int dy = -5; dy <= 5; dy++) {
                boolean touches = dx > -4 && dx < 4 && dy > -4 && dy < 4;
                Scene scene = new Scene(CHECKS, dx + ", " + dy + " off").tank(30, 30, 0);
                CHECKS.due(dx + ", " + dy + " off", scene.arena.enter(30 + dx, 30 + dy, 0), touches ? TankArena.REFUSED : 1);
                scene.count(Scene.TANKS, touches ? 1 : 2);
            }
        }
    }

    private static void touchingChangesNothing() {
        refused("x 3 off", s -> s.tank(30, 30, 0, Scene.SPEED, 1, 0), 33, 30, 5);
        refused("y 3 off", s -> s.tank(30, 30, 0, Scene.SPEED, 1, 0), 30, 27, 5);
        refused("at the same place", s -> s.tank(30, 30, 0, Scene.SPEED, 1, 0), 30, 30, 5);
        refused("the first of three", s -> s.tank(30, 30, 0).tank(40, 30, 0).tank(50, 30, 0), 27, 33, 5);
        refused("the last of three", s -> s.tank(30, 30, 0).tank(40, 30, 0).tank(50, 30, 0), 53, 27, 5);
        refused("between two", s -> s.tank(30, 30, 0).tank(36, 30, 0), 33, 30, 5);
    }

    /** A tank that was refused stands nowhere, and one that has driven off stands at its start behind a restart. */
    private static void touchingTheStart() {
        Scene scene = new Scene(CHECKS, "refused").tank(30, 30, 0);
        CHECKS.due("touches tank 0", scene.arena.enter(33, 33, 0), TankArena.REFUSED);
        scene.tank(36, 33, 0);
        refused("where it started", s -> {
            s.tank(10, 10, 0, Scene.SPEED, 8, 0).tank(30, 30, 0).turns(9);
            s.arena.restart();
        }, 13, 13, 5);
    }

    public static void main(String[] args) {
        rangeOfX();
        rangeOfY();
        corners();
        rangeOfHeading();
        turnMade();
        fourThere();
        touching();
        touchingChangesNothing();
        touchingTheStart();
        CHECKS.end();
    }
}
