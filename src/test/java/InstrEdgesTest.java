import java.util.function.Consumer;

/** Promise 3, the edges: each tank, op, a and b from both sides of its range, the first turn and the 16th instruction. */
public final class InstrEdgesTest {
    private static final Checks CHECKS = new Checks();
    private static final int LEAST = Integer.MIN_VALUE;
    private static final int MOST = Integer.MAX_VALUE;
    private static final int[] NUMBERS = {LEAST, -1000000, -1, 0, 1, 16, 101, MOST};

    private static String call(int tank, int op, int a, int b) {
        return "instr(" + tank + ", " + op + ", " + a + ", " + b + ")";
    }

    private static Scene two(Scene scene) {
        return scene.tank(10, 10, 0, Scene.SPEED, 3, 0).tank(30, 30, 0);
    }

    private static void accepted(int op, int a, int b) {
        Scene scene = two(new Scene(CHECKS, "two"));
        CHECKS.due(call(0, op, a, b), scene.arena.instr(0, op, a, b), 2);
        CHECKS.due(call(1, op, a, b), scene.arena.instr(1, op, a, b), 1);
    }

    private static void refused(String why, Consumer<Scene> setUp, int tank, int op, int a, int b) {
        Twins.refused(CHECKS, why + ": " + call(tank, op, a, b), setUp, arena -> arena.instr(tank, op, a, b));
    }

    private static void outOfRange(int op, int a, int b) {
        refused("out of range", InstrEdgesTest::two, 0, op, a, b);
        refused("out of range", InstrEdgesTest::two, 1, op, a, b);
    }

    /** a of the op from both sides of its range, with a b that is right or not used. */
    private static void rangeOfA(int op, int least, int most, int b) {
        accepted(op, least, b);
        accepted(op, most, b);
        for (int a : new int[] {LEAST, least - 1, most + 1, MOST}) {
            outOfRange(op, a, b);
        }
    }

    private static void rangeOfB(int op, int a, int most) {
        accepted(op, a, 0);
        accepted(op, a, most);
        for (int b : new int[] {LEAST, -1, most + 1, MOST}) {
            outOfRange(op, a, b);
        }
    }

    /** "No such tank": below 0, and from the number of the tanks on. */
    private static void noSuchTank() {
        refused("none there", scene -> { }, 0, Scene.WAIT, 0, 0);
        refused("one there", scene -> scene.tank(10, 10, 0), 1, Scene.WAIT, 0, 0);
        for (int tank : new int[] {LEAST, -1, 2, 3, 4, MOST}) {
            refused("two there", InstrEdgesTest::two, tank, Scene.WAIT, 0, 0);
        }
        for (int tank : new int[] {-1, 4}) {
            refused("four there", scene -> two(scene).tank(40, 40, 0).tank(50, 50, 0), tank, Scene.WAIT, 0, 0);
        }
        Scene four = two(new Scene(CHECKS, "four")).tank(40, 40, 0).tank(50, 50, 0);
        CHECKS.due("the first", four.arena.instr(0, Scene.WAIT, 0, 0), 2);
        CHECKS.due("the last", four.arena.instr(3, Scene.WAIT, 0, 0), 1);
    }

    /** "a turn was made since the start": a refused turn is none, and behind a restart none was made. */
    private static void turnMade() {
        Scene scene = new Scene(CHECKS, "no turn made").tank(10, 10, 0);
        CHECKS.due("a turn of one", scene.arena.turn(), TankArena.REFUSED);
        CHECKS.due("behind it", scene.arena.instr(0, Scene.SPEED, 1, 0), 1);
        scene.tank(30, 30, 0).turns(1);
        CHECKS.due("restart", scene.arena.restart(), 1);
        CHECKS.due("behind the restart", scene.arena.instr(0, Scene.SPEED, 2, 0), 2);
        scene.turns(1).measure(0, Scene.WISH, 1);

        refused("one turn made", s -> two(s).turns(1), 0, Scene.SPEED, 8, 0);
        refused("two turns made", s -> two(s).turns(2), 1, Scene.SPEED, 8, 0);
        refused("a turn behind a restart", s -> {
            two(s).turns(1).arena.restart();
            s.turns(1);
        }, 0, Scene.SPEED, 8, 0);
    }

    /** "op not 0 .. 12". */
    private static void rangeOfOp() {
        accepted(0, 1, 1);
        accepted(12, 1, 1);
        for (int op : new int[] {LEAST, -1, 13, MOST}) {
            outOfRange(op, 1, 1);
        }
    }

    private static void speed() {
        rangeOfA(Scene.SPEED, 0, 8, 0);
    }

    private static void turnGunAndRadar() {
        rangeOfA(Scene.TURN, -1, 1, 0);
        rangeOfA(Scene.GUN, -1, 1, 0);
        rangeOfA(Scene.RADAR, -1, 1, 0);
    }

    private static void fire() {
        rangeOfA(Scene.FIRE, 1, 3, 0);
    }

    /** "(a of a jump: 0 .. 15.)" */
    private static void jumps() {
        rangeOfA(Scene.JUMP, 0, 15, 0);
        rangeOfA(Scene.SEEN, 0, 15, 0);
        rangeOfA(Scene.BUMPED, 0, 15, 0);
        rangeOfA(Scene.HIT, 0, 15, 0);
        rangeOfA(Scene.AIMED, 0, 15, 0);
        rangeOfA(Scene.LOOP, 0, 15, 0);
        rangeOfA(Scene.LOOP, 0, 15, 1);
    }

    /** "SET register a (0 or 1) to b (0 .. 100)". */
    private static void set() {
        rangeOfA(Scene.SET, 0, 1, 0);
        rangeOfA(Scene.SET, 0, 1, 100);
        rangeOfB(Scene.SET, 0, 100);
        rangeOfB(Scene.SET, 1, 100);
    }

    /** "register b (0 or 1)". */
    private static void loop() {
        rangeOfB(Scene.LOOP, 0, 1);
        rangeOfB(Scene.LOOP, 15, 1);
    }

    /** "(what isn't used may be any number)": a and b of WAIT, b of all from SPEED to AIMED. */
    private static void notUsed() {
        for (int number : NUMBERS) {
            accepted(Scene.WAIT, number, number);
            accepted(Scene.WAIT, number, 0);
            accepted(Scene.WAIT, 0, number);
            for (int op = Scene.SPEED; op <= Scene.AIMED; op++) {
                accepted(op, 1, number);
            }
        }
    }

    /** What isn't used does nothing either. */
    private static void notUsedIsNotUsed() {
        for (int number : NUMBERS) {
            new Scene(CHECKS, "with " + number)
                .tank(10, 10, 0, Scene.SPEED, 2, number, Scene.GUN, 1, number, Scene.WAIT, number, number, Scene.JUMP, 2, number)
                .tank(30, 30, 0).turns(1).measure(0, Scene.WISH, 1).state(0, Scene.GUN_AT, 1).state(0, Scene.COUNTER, 3)
                .turns(1).state(0, Scene.COUNTER, 3).state(0, Scene.REGISTER_0, 0).state(0, Scene.REGISTER_1, 0)
                .state(0, Scene.SKIPS, 0);
        }
    }

    private static Scene full(Scene scene) {
        two(scene);
        for (int size = 2; size <= 16; size++) {
            CHECKS.due("instruction " + size, scene.arena.instr(0, Scene.SET, 1, size), size);
        }
        return scene;
    }

    /** "or it has 16": the 16th is added and run, a 17th of any kind is not. */
    private static void sixteen() {
        Scene scene = full(new Scene(CHECKS, "full"));
        CHECKS.due("the other tank has room", scene.arena.instr(1, Scene.SET, 0, 1), 1);
        scene.turns(1).state(0, Scene.SKIPS, 1).state(0, Scene.COUNTER, 10).state(0, Scene.REGISTER_1, 10)
            .turns(1).state(0, Scene.SKIPS, 1).state(0, Scene.COUNTER, 0).state(0, Scene.REGISTER_1, 16);
        for (int op = Scene.WAIT; op <= Scene.LOOP; op++) {
            refused("it has 16", InstrEdgesTest::full, 0, op, 1, 1);
        }
        refused("it has 16 behind a restart", s -> full(s).turns(2).arena.restart(), 0, Scene.WAIT, 0, 0);
    }

    public static void main(String[] args) {
        noSuchTank();
        turnMade();
        rangeOfOp();
        speed();
        turnGunAndRadar();
        fire();
        jumps();
        set();
        loop();
        notUsed();
        notUsedIsNotUsed();
        sixteen();
        CHECKS.end();
    }
}
