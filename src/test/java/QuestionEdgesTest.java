import java.util.function.Consumer;
import java.util.function.ToLongFunction;

/** Promises 1 and 6 to 9, the edges: tanks, bullets and what is asked of them from both sides of their ranges. */
public final class QuestionEdgesTest {
    private static final Checks CHECKS = new Checks();
    private static final int LEAST = Integer.MIN_VALUE;
    private static final int MOST = Integer.MAX_VALUE;

    /** At the start, mid in a fight with bullets in the air, and with a dead tank, question by question. */
    private static void refused(String call, ToLongFunction<TankArena> made) {
        Twins.refused(CHECKS, call + " at the start", QuestionEdgesTest::fight, made);
        Twins.refused(CHECKS, call + " in a fight", scene -> fight(scene).turns(14), made);
    }

    private static Scene fight(Scene scene) {
        return scene.tank(10, 10, 0, Scene.FIRE, 1, 0, Scene.RADAR, 1, 0).tank(50, 40, 4, Scene.FIRE, 3, 0, Scene.SPEED, 1, 0);
    }

    /** As many tanks as wanted, one beside the other. */
    private static Consumer<Scene> tanks(int wanted) {
        return scene -> {
            for (int i = 0; i < wanted; i++) {
                scene.tank(10 + 10 * i, 20 + i, i);
            }
        };
    }

    /** Promise 1: "No tanks, turn 0." */
    private static void newObject() {
        Scene scene = new Scene(CHECKS, "new");
        for (int what = 0; what <= 5; what++) {
            scene.count(what, 0);
        }
        for (int what = 0; what <= 7; what++) {
            int asked = what;
            Twins.refused(CHECKS, "new: measure(0, " + what + ")", tanks(0), arena -> arena.measure(0, asked));
        }
        for (int what = 0; what <= 10; what++) {
            int asked = what;
            Twins.refused(CHECKS, "new: state(0, " + what + ")", tanks(0), arena -> arena.state(0, asked));
        }
        for (int what = 0; what <= 4; what++) {
            int asked = what;
            Twins.refused(CHECKS, "new: bullet(0, " + what + ")", tanks(0), arena -> arena.bullet(0, asked));
        }
    }

    /** "Of a tank: .. else REFUSED": the last one that is there, and the next, which is not. */
    private static void lastTank() {
        for (int there = 0; there <= 4; there++) {
            int next = there;
            Scene scene = new Scene(CHECKS, there + " there");
            tanks(there).accept(scene);
            for (int tank = 0; tank < there; tank++) {
                scene.place(tank, 10 + 10 * tank, 20 + tank).state(tank, Scene.HEADING, tank);
            }
            Twins.refused(CHECKS, there + " there: measure", tanks(there), arena -> arena.measure(next, 0));
            Twins.refused(CHECKS, there + " there: state", tanks(there), arena -> arena.state(next, 0));
        }
    }

    private static void noSuchTank() {
        for (int tank : new int[] {LEAST, -1, 2, 3, 4, MOST}) {
            refused("measure(" + tank + ", 0)", arena -> arena.measure(tank, 0));
            refused("measure(" + tank + ", 7)", arena -> arena.measure(tank, 7));
            refused("state(" + tank + ", 0)", arena -> arena.state(tank, 0));
            refused("state(" + tank + ", 10)", arena -> arena.state(tank, 10));
        }
    }

    /** Promise 6: x (0) to distance (7), "in eighths; else REFUSED". */
    private static void rangeOfMeasure() {
        Scene scene = new Scene(CHECKS, "measure").tank(10, 20, 6).tank(40, 40, 0);
        long[] due = {80, 160, 0, 800, 24, 0, 0, 0};
        for (int what = 0; what <= 7; what++) {
            CHECKS.due("measure(0, " + what + ")", scene.arena.measure(0, what), due[what]);
        }
        for (int what : new int[] {LEAST, -1, 8, 9, MOST}) {
            refused("measure(0, " + what + ")", arena -> arena.measure(0, what));
            refused("measure(1, " + what + ")", arena -> arena.measure(1, what));
        }
    }

    /** Promise 6: "distance of what it sees, 0 for none (7)"; promise 7: "the tank that it sees or 4 (8)". */
    private static void noneSeen() {
        new Scene(CHECKS, "none seen").tank(10, 10, 0).tank(40, 10, 0)
            .measure(0, Scene.DISTANCE, 0).state(0, Scene.SIGHT, 4)
            .turns(1).measure(0, Scene.DISTANCE, 30).state(0, Scene.SIGHT, 1).measure(1, Scene.DISTANCE, 0)
            .state(1, Scene.SIGHT, 4);
        new Scene(CHECKS, "tank 0 seen").tank(10, 10, 4).tank(40, 10, 4)
            .turns(1).measure(1, Scene.DISTANCE, 30).state(1, Scene.SIGHT, 0).measure(0, Scene.DISTANCE, 0)
            .state(0, Scene.SIGHT, 4);
    }

    /** Promise 7: heading (0) to hit (10), "else REFUSED". */
    private static void rangeOfState() {
        Scene scene = new Scene(CHECKS, "state").tank(10, 20, 6).tank(40, 40, 0);
        int[] due = {6, 6, 6, 1, 0, 0, 0, 0, 4, 0, 0};
        for (int what = 0; what <= 10; what++) {
            scene.state(0, what, due[what]);
        }
        for (int what : new int[] {LEAST, -1, 11, 12, MOST}) {
            refused("state(0, " + what + ")", arena -> arena.state(0, what));
            refused("state(1, " + what + ")", arena -> arena.state(1, what));
        }
    }

    /** A tank that is no longer alive is told of as before. */
    private static void deadTank() {
        Scene scene = new Scene(CHECKS, "dead").tank(10, 10, 0, Scene.FIRE, 3, 0).tank(15, 10, 6).turns(55);
        long[] measures = {120, 80, 0, -96, 0, 0, 0, 0};
        int[] states = {6, 6, 6, 0, 0, 0, 0, 0, 4, 0, 1};
        // Its heat fell to 0 long before; nothing of it moved.
        for (int what = 0; what <= 7; what++) {
            CHECKS.due("dead: measure(1, " + what + ")", scene.arena.measure(1, what), measures[what]);
        }
        for (int what = 0; what <= 10; what++) {
            scene.state(1, what, states[what]);
        }
        CHECKS.due("dead: measure(1, 8)", scene.arena.measure(1, 8), TankArena.REFUSED);
        CHECKS.due("dead: state(1, 11)", scene.arena.state(1, 11), TankArena.REFUSED);
    }

    /** Nothing of a dead tank goes on: it dies at speed 1/2 in turn 55 of its seventh hit, on its way upwards beside tank 0. */
    private static void deadAtSpeed() {
        Scene scene = new Scene(CHECKS, "dead at speed").tank(10, 10, 0, Scene.FIRE, 3, 0)
            .tank(15, 10, 2, Scene.SET, 0, 53, Scene.WAIT, 0, 0, Scene.LOOP, 1, 0, Scene.SPEED, 5, 0, Scene.GUN, 1, 0, Scene.WAIT, 0, 0)
            .tank(50, 50, 0).turns(54).state(1, Scene.ALIVE, 1).place(1, 15, 10.5);
        for (int turn = 55; turn <= 57; turn++) {
            scene.turns(1).state(1, Scene.ALIVE, 0).place(1, 15, 10.5).measure(1, Scene.VELOCITY, 0.5).measure(1, Scene.WISH, 2.5)
                .measure(1, Scene.ENERGY, -12).state(1, Scene.HEADING, 2).state(1, Scene.GUN_AT, 3).state(1, Scene.COUNTER, 0);
        }
    }

    /** Promise 8: "at index k (from 0 ..) that is still there": none, one, two, and none again. */
    private static void rangeOfBullets() {
        Scene scene = new Scene(CHECKS, "bullets").tank(50, 10, 0, Scene.FIRE, 1, 0).tank(10, 30, 0, Scene.FIRE, 3, 0);
        int[] there = {0, 2, 2, 1, 1, 1, 2, 2, 2, 2};
        scene.turns(12);
        for (int turn = 0; turn < there.length; turn++) {
            scene.count(Scene.BULLETS, there[turn]);
            for (int k = -1; k <= 3; k++) {
                boolean told = k >= 0 && k < there[turn];
                CHECKS.due("turn " + (12 + turn) + ": bullet(" + k + ", 2) told", scene.arena.bullet(k, 2) == TankArena.REFUSED ? 0 : 1, told ? 1 : 0);
            }
            scene.turns(1);
        }
    }

    private static void noSuchBullet() {
        for (int k : new int[] {LEAST, -1, 2, 3, 16, MOST}) {
            refused("bullet(" + k + ", 0)", arena -> arena.bullet(k, 0));
        }
        Twins.refused(CHECKS, "bullet(0, 0) before a shot", scene -> fight(scene).turns(12), arena -> arena.bullet(0, 0));
        Twins.refused(CHECKS, "bullet(2, 0) of two", scene -> fight(scene).turns(13)
            .count(Scene.BULLETS, 2), arena -> arena.bullet(2, 0));
    }

    /** Promise 8: x (0) to the tank that fired it (4). */
    private static void rangeOfBulletsWhat() {
        fight(new Scene(CHECKS, "bullet")).turns(13).bullet(0, 17, 10, 1, 0, 0).bullet(1, 39, 40, 3, 4, 1);
        for (int what : new int[] {LEAST, -1, 5, 6, MOST}) {
            refused("bullet(0, " + what + ")", arena -> arena.bullet(0, what));
            refused("bullet(1, " + what + ")", arena -> arena.bullet(1, what));
        }
    }

    /** Promise 9: turns (0) to hits (5), "else REFUSED". */
    private static void rangeOfCount() {
        Scene scene = fight(new Scene(CHECKS, "count")).turns(13);
        int[] due = {13, 2, 2, 2, 2, 0};
        for (int what = 0; what <= 5; what++) {
            scene.count(what, due[what]);
        }
        for (int what : new int[] {LEAST, -1, 6, 7, MOST}) {
            refused("count(" + what + ")", arena -> arena.count(what));
            Twins.refused(CHECKS, "new: count(" + what + ")", tanks(0), arena -> arena.count(what));
        }
    }

    public static void main(String[] args) {
        newObject();
        lastTank();
        noSuchTank();
        rangeOfMeasure();
        noneSeen();
        rangeOfState();
        deadTank();
        deadAtSpeed();
        rangeOfBullets();
        noSuchBullet();
        rangeOfBulletsWhat();
        rangeOfCount();
        CHECKS.end();
    }
}
