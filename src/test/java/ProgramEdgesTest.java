import java.util.Arrays;

/** Step 1, the edges: the counter at the end, ten instructions, the skip and the third of them. */
public final class ProgramEdgesTest {
    private static final Checks CHECKS = new Checks();

    private static Scene alone(String name, int... program) {
        return new Scene(CHECKS, name).tank(30, 30, 0, program).tank(4, 60, 2);
    }

    /** As many of the instruction, and then the others. */
    private static int[] many(int times, int[] instruction, int... then) {
        int[] program = new int[3 * times + then.length];
        for (int i = 0; i < 3 * times; i++) {
            program[i] = instruction[i % 3];
        }
        System.arraycopy(then, 0, program, 3 * times, then.length);
        return program;
    }

    private static int[] speed(int a) {
        return new int[] {Scene.SPEED, a, 0};
    }

    /** "a PROGRAM of 0 to 16 instructions": of none the counter stays 0, nothing is done and none is skipped. */
    private static void emptyProgram() {
        Scene scene = alone("empty");
        for (int turn = 1; turn <= 5; turn++) {
            scene.turns(1).state(0, Scene.COUNTER, 0).state(0, Scene.SKIPS, 0).measure(0, Scene.WISH, 0).place(0, 30, 30);
        }
    }

    /** Of 16 the last one is done too, and the counter of 16 becomes 0 in the next run. */
    private static void fullProgram() {
        Scene scene = alone("sixteen", many(16, new int[] {Scene.WAIT, 0, 0}));
        for (int turn = 1; turn <= 16; turn++) {
            scene.turns(1).state(0, Scene.COUNTER, turn);
        }
        scene.turns(1).state(0, Scene.COUNTER, 0).turns(1).state(0, Scene.COUNTER, 1).state(0, Scene.SKIPS, 0);
    }

    /** "If the counter is not below the number of instructions, it becomes 0 and the run is over". */
    private static void counterAtTheEnd() {
        int[] twoWaits = {Scene.SET, 0, 5, Scene.WAIT, 0, 0, Scene.LOOP, 0, 1, Scene.WAIT, 0, 0};
        alone("a WAIT is the last", twoWaits)
            .turns(1).state(0, Scene.COUNTER, 2)
            .turns(1).state(0, Scene.COUNTER, 4).state(0, Scene.REGISTER_1, -1)
            // Nothing is done in this run but that the counter becomes 0.
            .turns(1).state(0, Scene.COUNTER, 0).state(0, Scene.REGISTER_1, -1)
            .turns(1).state(0, Scene.COUNTER, 2).state(0, Scene.REGISTER_1, -1);
        alone("no WAIT", Scene.LOOP, 0, 0, Scene.LOOP, 0, 1)
            .turns(1).state(0, Scene.COUNTER, 0).state(0, Scene.REGISTER_0, -1).state(0, Scene.REGISTER_1, -1)
            .turns(1).state(0, Scene.COUNTER, 0).state(0, Scene.REGISTER_0, -2).state(0, Scene.REGISTER_1, -2);
        alone("beyond the end", Scene.LOOP, 0, 0, Scene.JUMP, 15, 0)
            .turns(1).state(0, Scene.COUNTER, 0).state(0, Scene.REGISTER_0, -1).state(0, Scene.SKIPS, 0)
            .turns(1).state(0, Scene.COUNTER, 0).state(0, Scene.REGISTER_0, -2).state(0, Scene.SKIPS, 0);
    }

    /** What was asked for before the counter was at the end is done. */
    private static void doneWithoutAWait() {
        alone("to the end", Scene.SPEED, 3, 0, Scene.TURN, 1, 0, Scene.GUN, -1, 0, Scene.RADAR, 1, 0)
            .turns(1).measure(0, Scene.WISH, 1.5).state(0, Scene.HEADING, 1).state(0, Scene.GUN_AT, 7)
            .state(0, Scene.RADAR_AT, 1);
    }

    /** "at most 10 instructions": nine and ten are done, the eleventh is not. */
    private static void tenInstructions() {
        for (int loops = 8; loops <= 11; loops++) {
            Scene scene = alone(loops + " LOOPs and a WAIT", many(loops, new int[] {Scene.LOOP, 0, 0}, Scene.WAIT, 0, 0));
            boolean skipped = loops >= 10;
            scene.turns(1).state(0, Scene.REGISTER_0, -Math.min(loops, 10)).state(0, Scene.SKIPS, skipped ? 1 : 0)
                .state(0, Scene.COUNTER, skipped ? 10 : loops + 1);
        }
    }

    /** "If 10 were done and none was a WAIT": the tenth may be one, the eleventh is too late. */
    private static void tenthIsAWait() {
        alone("the tenth", many(9, speed(2), Scene.WAIT, 0, 0))
            .turns(1).state(0, Scene.SKIPS, 0).state(0, Scene.COUNTER, 10).measure(0, Scene.WISH, 1)
            .measure(0, Scene.VELOCITY, 0.5);
        alone("the eleventh", many(10, speed(2), Scene.WAIT, 0, 0))
            .turns(1).state(0, Scene.SKIPS, 1).state(0, Scene.COUNTER, 10).measure(0, Scene.WISH, 0).measure(0, Scene.VELOCITY, 0)
            .turns(1).state(0, Scene.SKIPS, 1).state(0, Scene.COUNTER, 11);
    }

    /** The end behind nine is no skip; behind ten it is one, and the counter stays there for the next run. */
    private static void endBehindTen() {
        alone("nine and the end", many(9, speed(2)))
            .turns(1).state(0, Scene.SKIPS, 0).state(0, Scene.COUNTER, 0).measure(0, Scene.WISH, 1);
        alone("ten and the end", many(10, speed(2)))
            .turns(1).state(0, Scene.SKIPS, 1).state(0, Scene.COUNTER, 10).measure(0, Scene.WISH, 0)
            .turns(1).state(0, Scene.SKIPS, 1).state(0, Scene.COUNTER, 0).measure(0, Scene.WISH, 0);
        alone("the tenth jumps beyond", many(9, speed(2), Scene.JUMP, 15, 0))
            .turns(1).state(0, Scene.SKIPS, 1).state(0, Scene.COUNTER, 15)
            .turns(1).state(0, Scene.SKIPS, 1).state(0, Scene.COUNTER, 0);
        alone("the ninth jumps beyond", many(8, speed(2), Scene.JUMP, 15, 0))
            .turns(1).state(0, Scene.SKIPS, 0).state(0, Scene.COUNTER, 0).measure(0, Scene.WISH, 1);
    }

    /** "nothing that the run asked for is done": what is asked in turn 14, when the gun is cool, before a WAIT or in a skip. */
    private static void nothingIsDone() {
        int[] asked = {Scene.SET, 0, 13, Scene.WAIT, 0, 0, Scene.LOOP, 1, 0, Scene.SPEED, 4, 0, Scene.TURN, 1, 0, Scene.GUN, 1, 0,
            Scene.RADAR, -1, 0, Scene.FIRE, 2, 0, Scene.SET, 1, 7};
        alone("before a WAIT", joined(asked, Scene.WAIT, 0, 0)).turns(14).state(0, Scene.SKIPS, 0).count(Scene.SHOTS, 1)
            .measure(0, Scene.WISH, 2).measure(0, Scene.VELOCITY, 0.5).measure(0, Scene.ENERGY, 98)
            .state(0, Scene.HEADING, 1).state(0, Scene.GUN_AT, 1).state(0, Scene.RADAR_AT, 7).state(0, Scene.REGISTER_1, 7);
        alone("in a skip", joined(asked, Scene.JUMP, 8, 0)).turns(14).state(0, Scene.SKIPS, 1).count(Scene.SHOTS, 0)
            .measure(0, Scene.HEAT, 0)
            .measure(0, Scene.WISH, 0).measure(0, Scene.VELOCITY, 0).measure(0, Scene.ENERGY, 100)
            .state(0, Scene.HEADING, 0).state(0, Scene.GUN_AT, 0).state(0, Scene.RADAR_AT, 0)
            // "(counter and registers stay as they are)": the tenth instruction was the second JUMP.
            .state(0, Scene.REGISTER_1, 7).state(0, Scene.REGISTER_0, 0).state(0, Scene.COUNTER, 8);
    }

    private static int[] joined(int[] one, int... two) {
        int[] both = Arrays.copyOf(one, one.length + two.length);
        System.arraycopy(two, 0, both, one.length, two.length);
        return both;
    }

    /** "the wish being what it was before the run": neither 0 nor what the run asked for. */
    private static void wishBeforeTheRun() {
        alone("wish", Scene.SPEED, 4, 0, Scene.WAIT, 0, 0, Scene.SPEED, 8, 0, Scene.SPEED, 1, 0, Scene.JUMP, 2, 0)
            .turns(1).measure(0, Scene.WISH, 2).measure(0, Scene.VELOCITY, 0.5)
            .turns(1).measure(0, Scene.WISH, 2).measure(0, Scene.VELOCITY, 1).state(0, Scene.SKIPS, 1)
            .turns(1).measure(0, Scene.WISH, 2).measure(0, Scene.VELOCITY, 1.5).state(0, Scene.SKIPS, 2);
    }

    /** SET and as many LOOPs as it says; then a register is set, and only then is there a WAIT. */
    private static Scene afterLoops(int loops) {
        return alone(loops + " LOOPs", Scene.SPEED, 8, 0, Scene.WAIT, 0, 0, Scene.SET, 0, loops, Scene.LOOP, 3, 0, Scene.SET, 1, 7,
            Scene.WAIT, 0, 0, Scene.SET, 1, 8, Scene.WAIT, 0, 0).turns(3).state(0, Scene.SKIPS, 2)
                .measure(0, Scene.VELOCITY, 1.5);
    }

    /** "It is DISABLED from its third skip on": the WAIT is the 30th instruction of three runs, or the 31st. */
    private static void thirdSkip() {
        afterLoops(27).turns(1).state(0, Scene.SKIPS, 2).state(0, Scene.REGISTER_1, 7).state(0, Scene.COUNTER, 6)
            .measure(0, Scene.VELOCITY, 2)
            .turns(1).state(0, Scene.REGISTER_1, 8).state(0, Scene.COUNTER, 8).measure(0, Scene.VELOCITY, 2.5);
        afterLoops(28).turns(1).state(0, Scene.SKIPS, 3).state(0, Scene.REGISTER_1, 7).state(0, Scene.COUNTER, 5)
            .measure(0, Scene.VELOCITY, 0.5)
            .turns(1).state(0, Scene.SKIPS, 3).state(0, Scene.REGISTER_1, 7).state(0, Scene.COUNTER, 5)
            .measure(0, Scene.VELOCITY, 0)
            .turns(9).state(0, Scene.SKIPS, 3).state(0, Scene.REGISTER_1, 7).state(0, Scene.COUNTER, 5)
            .measure(0, Scene.VELOCITY, 0);
    }

    /** A disabled tank asks for no shot and no turn, but is hit, cools and sees as others do. */
    private static void disabledStaysInTheField() {
        new Scene(CHECKS, "disabled").tank(30, 30, 0, Scene.FIRE, 1, 0, Scene.GUN, 1, 0, Scene.JUMP, 0, 0)
            .tank(36, 30, 4, Scene.FIRE, 1, 0)
            .turns(3).state(0, Scene.SKIPS, 3).measure(0, Scene.HEAT, 2.25)
            .turns(10).state(0, Scene.WAS_HIT, 1).measure(0, Scene.ENERGY, 96).measure(0, Scene.HEAT, 0).state(0, Scene.SIGHT, 1)
            .turns(20).count(Scene.SHOTS, 5).state(0, Scene.GUN_AT, 0).state(0, Scene.ALIVE, 1);
    }

    /** A tank that is no longer alive does not run: tank 1 dies in turn 55. */
    private static void deadDoNotRun() {
        new Scene(CHECKS, "dead").tank(10, 10, 0, Scene.FIRE, 3, 0)
            .tank(15, 10, 2, Scene.LOOP, 0, 0, Scene.WAIT, 0, 0, Scene.JUMP, 0, 0)
            .tank(50, 50, 0).turns(55).state(1, Scene.ALIVE, 0).state(1, Scene.REGISTER_0, -55).state(1, Scene.COUNTER, 2)
            .turns(3).state(1, Scene.REGISTER_0, -55).state(1, Scene.COUNTER, 2);
    }

    public static void main(String[] args) {
        emptyProgram();
        fullProgram();
        counterAtTheEnd();
        doneWithoutAWait();
        tenInstructions();
        tenthIsAWait();
        endBehindTen();
        nothingIsDone();
        wishBeforeTheRun();
        thirdSkip();
        disabledStaysInTheField();
        deadDoNotRun();
        CHECKS.end();
    }
}
