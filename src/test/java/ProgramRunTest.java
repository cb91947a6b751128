/** Promise 4, step 1: the programs, their budget and their skips. */
public final class ProgramRunTest {
    private static final Checks CHECKS = new Checks();

    /** Tank 0 at 10, 10 with the program; tank 1 far off, without one. */
    private static Scene alone(String name, int... program) {
        return new Scene(CHECKS, name).tank(10, 10, 0, program).tank(50, 50, 0);
    }

    private static int[] repeated(int times, int... instruction) {
        int[] program = new int[3 * times];
        for (int i = 0; i < program.length; i++) {
            program[i] = instruction[i % 3];
        }
        return program;
    }

    private static int[] joined(int[] one, int... two) {
        int[] all = java.util.Arrays.copyOf(one, one.length + two.length);
        System.arraycopy(two, 0, all, one.length, two.length);
        return all;
    }

    private static void counter() {
        alone("empty").turns(2).state(0, Scene.COUNTER, 0).state(0, Scene.SKIPS, 0);
        alone("a WAIT at the end", Scene.SPEED, 1, 0, Scene.WAIT, 0, 0)
            .turns(1).state(0, Scene.COUNTER, 2)
            .turns(1).state(0, Scene.COUNTER, 0)
            .turns(1).state(0, Scene.COUNTER, 2);
        alone("no WAIT", Scene.SPEED, 1, 0)
            .turns(1).state(0, Scene.COUNTER, 0).measure(0, Scene.WISH, 0.5).state(0, Scene.SKIPS, 0);
        alone("a jump behind the end", Scene.SPEED, 3, 0, Scene.JUMP, 15, 0, Scene.SPEED, 8, 0)
            .turns(1).state(0, Scene.COUNTER, 0).measure(0, Scene.WISH, 1.5).state(0, Scene.SKIPS, 0);
        alone("an instruction a turn", Scene.SET, 0, 5, Scene.WAIT, 0, 0, Scene.SET, 0, 6, Scene.WAIT, 0, 0)
            .turns(1).state(0, Scene.REGISTER_0, 5).state(0, Scene.COUNTER, 2)
            .turns(1).state(0, Scene.REGISTER_0, 6).state(0, Scene.COUNTER, 4);
    }

    private static void budget() {
        alone("nine and the end", repeated(9, Scene.SPEED, 2, 0))
            .turns(1).state(0, Scene.SKIPS, 0).state(0, Scene.COUNTER, 0).measure(0, Scene.WISH, 1);
        alone("the tenth is a WAIT", joined(repeated(9, Scene.SPEED, 2, 0), Scene.WAIT, 0, 0))
            .turns(1).state(0, Scene.SKIPS, 0).state(0, Scene.COUNTER, 10).measure(0, Scene.WISH, 1);
        alone("the eleventh is a WAIT", joined(repeated(10, Scene.SPEED, 2, 0), Scene.WAIT, 0, 0))
            .turns(1).state(0, Scene.SKIPS, 1).state(0, Scene.COUNTER, 10).measure(0, Scene.WISH, 0)
            .turns(1).state(0, Scene.SKIPS, 1).state(0, Scene.COUNTER, 11);
        alone("ten and the end", repeated(10, Scene.SPEED, 2, 0))
            .turns(1).state(0, Scene.SKIPS, 1).state(0, Scene.COUNTER, 10).measure(0, Scene.WISH, 0)
            .turns(1).state(0, Scene.SKIPS, 1).state(0, Scene.COUNTER, 0)
            .turns(1).state(0, Scene.SKIPS, 2)
            .turns(2).state(0, Scene.SKIPS, 3).state(0, Scene.COUNTER, 10)
            .turns(3).state(0, Scene.SKIPS, 3).state(0, Scene.COUNTER, 10);
        alone("the tenth jumps behind the end", joined(repeated(9, Scene.SET, 0, 1), Scene.JUMP, 15, 0))
            .turns(1).state(0, Scene.SKIPS, 1).state(0, Scene.COUNTER, 15)
            .turns(1).state(0, Scene.SKIPS, 1).state(0, Scene.COUNTER, 0);
    }

    private static void skipUndoesTheRun() {
        alone("all asked in vain", Scene.TURN, 1, 0, Scene.GUN, 1, 0, Scene.RADAR, -1, 0, Scene.SPEED, 8, 0,
            Scene.SET, 1, 33, Scene.JUMP, 0, 0)
            .turns(1).state(0, Scene.SKIPS, 1).state(0, Scene.HEADING, 0).state(0, Scene.GUN_AT, 0)
            .state(0, Scene.RADAR_AT, 0).measure(0, Scene.WISH, 0).measure(0, Scene.VELOCITY, 0)
            .state(0, Scene.REGISTER_1, 33).state(0, Scene.COUNTER, 4);

        // The gun is cool from turn 13 on, so nothing but the skip keeps the shot of turn 14 back.
        alone("fired in vain", Scene.SET, 0, 13, Scene.WAIT, 0, 0, Scene.LOOP, 1, 0, Scene.FIRE, 1, 0, Scene.JUMP, 3, 0)
            .turns(13).measure(0, Scene.HEAT, 0).state(0, Scene.SKIPS, 0)
            .turns(1).state(0, Scene.SKIPS, 1).count(Scene.SHOTS, 0);
    }

    private static void skipKeepsTheWishBefore() {
        alone("disabled", Scene.SPEED, 4, 0, Scene.WAIT, 0, 0, Scene.SPEED, 8, 0, Scene.JUMP, 2, 0)
            .turns(1).measure(0, Scene.WISH, 2).measure(0, Scene.VELOCITY, 0.5)
            .turns(1).measure(0, Scene.WISH, 2).measure(0, Scene.VELOCITY, 1).state(0, Scene.SKIPS, 1)
            .turns(1).measure(0, Scene.WISH, 2).measure(0, Scene.VELOCITY, 1.5).state(0, Scene.SKIPS, 2)
            .turns(1).measure(0, Scene.WISH, 2).measure(0, Scene.VELOCITY, 0.5).state(0, Scene.SKIPS, 3)
            .turns(1).measure(0, Scene.VELOCITY, 0).state(0, Scene.SKIPS, 3).place(0, 13.5, 10)
            .turns(2).measure(0, Scene.VELOCITY, 0).state(0, Scene.COUNTER, 2);
    }

    private static void lastOfAKindCounts() {
        alone("last", Scene.TURN, 1, 0, Scene.TURN, -1, 0, Scene.GUN, 1, 0, Scene.GUN, 0, 0, Scene.RADAR, -1, 0,
            Scene.RADAR, 1, 0, Scene.SPEED, 8, 0, Scene.SPEED, 1, 0)
            .turns(1).state(0, Scene.HEADING, 7).state(0, Scene.GUN_AT, 0).state(0, Scene.RADAR_AT, 1)
            .measure(0, Scene.WISH, 0.5);
        alone("last power", Scene.FIRE, 1, 0, Scene.FIRE, 3, 0).turns(13).count(Scene.SHOTS, 1).bullet(0, 15, 10, 3, 0, 0);
        alone("less power", Scene.FIRE, 3, 0, Scene.FIRE, 1, 0).turns(13).count(Scene.SHOTS, 1).bullet(0, 17, 10, 1, 0, 0);
    }

    private static void askedForThisTurnAlone() {
        alone("once", Scene.TURN, 1, 0, Scene.GUN, 1, 0, Scene.RADAR, 1, 0, Scene.FIRE, 1, 0, Scene.WAIT, 0, 0,
            Scene.WAIT, 0, 0, Scene.JUMP, 5, 0)
            .turns(4).state(0, Scene.HEADING, 1).state(0, Scene.GUN_AT, 1).state(0, Scene.RADAR_AT, 1)
            .turns(16).count(Scene.SHOTS, 0).state(0, Scene.SKIPS, 0);
    }

    private static void registers() {
        alone("LOOP", Scene.SET, 0, 3, Scene.LOOP, 1, 0, Scene.SET, 1, 2, Scene.LOOP, 3, 1)
            .turns(1).state(0, Scene.REGISTER_0, 0).state(0, Scene.REGISTER_1, 0).state(0, Scene.COUNTER, 0)
            .state(0, Scene.SKIPS, 0);
        alone("LOOP below 0", Scene.LOOP, 0, 0, Scene.LOOP, 0, 1, Scene.LOOP, 0, 1)
            .turns(1).state(0, Scene.REGISTER_0, -1).state(0, Scene.REGISTER_1, -2)
            .turns(1).state(0, Scene.REGISTER_0, -2).state(0, Scene.REGISTER_1, -4);
        alone("LOOP from 1", Scene.SET, 0, 1, Scene.LOOP, 0, 0, Scene.SET, 1, 100)
            .turns(1).state(0, Scene.REGISTER_0, 0).state(0, Scene.REGISTER_1, 100);
    }

    private static void seen() {
        int[] program = {Scene.SEEN, 3, 0, Scene.SET, 0, 1, Scene.JUMP, 15, 0, Scene.SET, 0, 2};
        new Scene(CHECKS, "SEEN").tank(10, 10, 0, program).tank(30, 10, 0)
            .turns(1).state(0, Scene.SIGHT, 1).state(0, Scene.REGISTER_0, 1)
            .turns(1).state(0, Scene.REGISTER_0, 2);
        new Scene(CHECKS, "SEEN none").tank(10, 10, 4, program).tank(30, 10, 0)
            .turns(2).state(0, Scene.SIGHT, 4).state(0, Scene.REGISTER_0, 1);
    }

    private static void aimed() {
        int[] program = {Scene.WAIT, 0, 0, Scene.AIMED, 3, 0, Scene.WAIT, 0, 0, Scene.SET, 0, 9};
        int[] gunAway = {Scene.GUN, 1, 0, Scene.WAIT, 0, 0, Scene.AIMED, 4, 0, Scene.WAIT, 0, 0, Scene.SET, 0, 9};
        int[] radarAway = {Scene.RADAR, 1, 0, Scene.WAIT, 0, 0, Scene.AIMED, 4, 0, Scene.WAIT, 0, 0, Scene.SET, 0, 9};
        new Scene(CHECKS, "AIMED").tank(10, 10, 1, program).tank(30, 29, 0).turns(2).state(0, Scene.REGISTER_0, 9);
        new Scene(CHECKS, "AIMED, gun away").tank(10, 10, 1, gunAway).tank(30, 29, 0)
            .turns(1).state(0, Scene.SIGHT, 1).turns(1).state(0, Scene.REGISTER_0, 0);
        new Scene(CHECKS, "AIMED, none seen").tank(10, 10, 1, radarAway).tank(30, 29, 0)
            .turns(1).state(0, Scene.SIGHT, 4).turns(1).state(0, Scene.REGISTER_0, 0);
    }

    private static void bumped() {
        int[] program = {Scene.BUMPED, 4, 0, Scene.SPEED, 1, 0, Scene.SET, 0, 1, Scene.JUMP, 15, 0,
            Scene.SET, 0, 2, Scene.SPEED, 0, 0};
        new Scene(CHECKS, "BUMPED").tank(62, 10, 0, program).tank(30, 30, 0)
            .turns(1).state(0, Scene.HAS_BUMPED, 1).state(0, Scene.REGISTER_0, 1)
            .turns(1).state(0, Scene.HAS_BUMPED, 0).state(0, Scene.REGISTER_0, 2)
            .turns(1).state(0, Scene.HAS_BUMPED, 1).state(0, Scene.REGISTER_0, 1);
    }

    private static void hit() {
        int[] program = {Scene.HIT, 3, 0, Scene.SET, 0, 1, Scene.JUMP, 15, 0, Scene.SET, 0, 2};
        new Scene(CHECKS, "HIT").tank(10, 10, 0, Scene.FIRE, 1, 0).tank(15, 10, 0, program)
            .turns(13).state(1, Scene.WAS_HIT, 1).state(1, Scene.REGISTER_0, 1)
            .turns(1).state(1, Scene.WAS_HIT, 0).state(1, Scene.REGISTER_0, 2)
            .turns(1).state(1, Scene.REGISTER_0, 1);
    }

    public static void main(String[] args) {
        counter();
        budget();
        skipUndoesTheRun();
        skipKeepsTheWishBefore();
        lastOfAKindCounts();
        askedForThisTurnAlone();
        registers();
        seen();
        aimed();
        bumped();
        hit();
        CHECKS.end();
    }
}
