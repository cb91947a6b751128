/** The instructions of the terms, the edges: what each does at the ends of its ranges and when its condition just holds. */
public final class InstructionEdgesTest {
    private static final Checks CHECKS = new Checks();

    /** Tank 0 at 30, 30 with the program; tank 1 where it does not meet or see it. */
    private static Scene alone(String name, int... program) {
        return new Scene(CHECKS, name).tank(30, 30, 0, program).tank(4, 60, 2);
    }

    /** Three instructions in front, a WAIT at each index from 3 on: it tells by the counter where a jump went. */
    private static int[] jumpTo(int op, int a, int b) {
        int[] program = new int[48];
        System.arraycopy(new int[] {Scene.WAIT, 0, 0, op, a, b, Scene.WAIT, 0, 0}, 0, program, 0, 9);
        return program;
    }

    /** "0 WAIT": behind it the run is over, and what stood before it is done. */
    private static void waits() {
        alone("WAIT", Scene.WAIT, 0, 0, Scene.SPEED, 8, 0).turns(1).measure(0, Scene.WISH, 0).state(0, Scene.COUNTER, 1)
            .turns(1).measure(0, Scene.WISH, 4).state(0, Scene.COUNTER, 0);
    }

    /** "1 SPEED: the wish becomes a / 2 (a 0 .. 8)": halves too, from 0 to 4. */
    private static void speed() {
        for (int a = 0; a <= 8; a++) {
            Scene scene = alone("SPEED " + a, Scene.SPEED, a, 0).turns(1);
            CHECKS.due("SPEED " + a, scene.arena.measure(0, Scene.WISH), 4 * a);
            scene.measure(0, Scene.VELOCITY, a == 0 ? 0 : 0.5);
        }
        alone("SPEED 8, then 0", Scene.SPEED, 8, 0, Scene.SPEED, 0, 0).turns(1).measure(0, Scene.WISH, 0)
            .measure(0, Scene.VELOCITY, 0);
    }

    /** "is to turn by a (-1 .. 1) this turn; the last one of a kind counts": a last 0 too. */
    private static void lastTurnCounts() {
        for (int first = -1; first <= 1; first++) {
            for (int last = -1; last <= 1; last++) {
                alone("TURN", Scene.TURN, first, 0, Scene.TURN, last, 0).turns(1).state(0, Scene.HEADING, (8 + last) % 8)
                    .state(0, Scene.GUN_AT, 0).state(0, Scene.RADAR_AT, 0);
                alone("GUN", Scene.GUN, first, 0, Scene.GUN, last, 0).turns(1).state(0, Scene.GUN_AT, (8 + last) % 8)
                    .state(0, Scene.HEADING, 0).state(0, Scene.RADAR_AT, 0);
                alone("RADAR", Scene.RADAR, first, 0, Scene.RADAR, last, 0).turns(1).state(0, Scene.RADAR_AT, (8 + last) % 8)
                    .state(0, Scene.HEADING, 0).state(0, Scene.GUN_AT, 0);
            }
        }
    }

    /** "this turn": it is not turned once more in a turn that does not ask for it. */
    private static void thisTurnAlone() {
        alone("this turn", Scene.TURN, 1, 0, Scene.GUN, -1, 0, Scene.RADAR, 1, 0, Scene.WAIT, 0, 0, Scene.WAIT, 0, 0)
            .turns(1).state(0, Scene.HEADING, 1).state(0, Scene.GUN_AT, 7).state(0, Scene.RADAR_AT, 1)
            .turns(1).state(0, Scene.HEADING, 1).state(0, Scene.GUN_AT, 7).state(0, Scene.RADAR_AT, 1);
    }

    /** "5 FIRE with the power a (1 .. 3); the last one counts." */
    private static void lastFireCounts() {
        for (int first = 1; first <= 3; first++) {
            for (int last = 1; last <= 3; last++) {
                alone("FIRE", Scene.FIRE, first, 0, Scene.FIRE, last, 0).turns(13).count(Scene.SHOTS, 1)
                    .bullet(0, 30 + 8 - last, 30, last, 0, 0).measure(0, Scene.ENERGY, 100 - last);
            }
        }
    }

    /** A FIRE that came too early is not kept for the turn in which the gun is cool. */
    private static void fireIsNotKept() {
        alone("early", Scene.FIRE, 1, 0, Scene.WAIT, 0, 0, Scene.WAIT, 0, 0, Scene.JUMP, 2, 0).turns(20).measure(0, Scene.HEAT, 0)
            .count(Scene.SHOTS, 0).measure(0, Scene.ENERGY, 100);
    }

    /** "6 JUMP to a": each index from 0 to 15 of a full program. */
    private static void jump() {
        for (int a = 0; a <= 15; a++) {
            // Index 1 is the jump itself, over and over: the budget is spent.
            alone("JUMP " + a, jumpTo(Scene.JUMP, a, 0)).turns(2).state(0, Scene.COUNTER, a == 1 ? 1 : a + 1)
                .state(0, Scene.SKIPS, a == 1 ? 1 : 0);
        }
    }

    /** A jump to the last instruction does it; one to the number of instructions or beyond ends the run at 0. */
    private static void jumpBehindTheEnd() {
        for (int a = 2; a <= 15; a++) {
            alone("JUMP " + a + " of 3", Scene.JUMP, a, 0, Scene.WAIT, 0, 0, Scene.SET, 0, 7)
                .turns(1).state(0, Scene.REGISTER_0, a == 2 ? 7 : 0).state(0, Scene.COUNTER, 0).state(0, Scene.SKIPS, 0);
        }
    }

    /** "(not at first)": no jump in the first turn, though a tank stands before the radar and the gun. */
    private static void notAtFirst() {
        for (int op = Scene.SEEN; op <= Scene.AIMED; op++) {
            new Scene(CHECKS, "at first, op " + op).tank(30, 30, 0, op, 2, 0, Scene.WAIT, 0, 0, Scene.WAIT, 0, 0).tank(50, 30, 4)
                .turns(1).state(0, Scene.COUNTER, 2);
        }
    }

    /** "7 SEEN: jump to a if the radar sees a tank": to each index, and on if it sees none. */
    private static void seen() {
        for (int a = 3; a <= 15; a++) {
            new Scene(CHECKS, "SEEN " + a).tank(30, 30, 0, jumpTo(Scene.SEEN, a, 0)).tank(50, 30, 0)
                .turns(1).state(0, Scene.SIGHT, 1).turns(1).state(0, Scene.COUNTER, a + 1);
        }
        new Scene(CHECKS, "tank 0 seen").tank(50, 30, 0).tank(30, 30, 0, jumpTo(Scene.SEEN, 9, 0))
            .turns(1).state(1, Scene.SIGHT, 0).turns(1).state(1, Scene.COUNTER, 10);
        new Scene(CHECKS, "none seen").tank(30, 30, 4, jumpTo(Scene.SEEN, 9, 0)).tank(50, 30, 0)
            .turns(1).state(0, Scene.SIGHT, 4).turns(1).state(0, Scene.COUNTER, 3);
    }

    /** "8 BUMPED .. jump to a if that happened": at the wall, at a tank, but not for the one that was bumped into. */
    private static void bumped() {
        int[] program = {Scene.SPEED, 1, 0, Scene.WAIT, 0, 0, Scene.BUMPED, 5, 0, Scene.WAIT, 0, 0, Scene.WAIT, 0, 0, Scene.WAIT, 0, 0};
        new Scene(CHECKS, "at the wall").tank(62, 30, 0, program).tank(30, 30, 0).turns(2).state(0, Scene.COUNTER, 6);
        new Scene(CHECKS, "not yet at the wall").tank(61, 30, 0, program).tank(30, 30, 0).turns(2).state(0, Scene.COUNTER, 4);
        new Scene(CHECKS, "at a tank").tank(30, 30, 0, program).tank(34, 30, 0, Scene.WAIT, 0, 0, Scene.BUMPED, 3, 0,
            Scene.WAIT, 0, 0, Scene.WAIT, 0, 0).turns(2).state(0, Scene.COUNTER, 6).state(1, Scene.COUNTER, 3);
        new Scene(CHECKS, "not yet at a tank").tank(30, 30, 0, program).tank(35, 30, 0).turns(2).state(0, Scene.COUNTER, 4);
    }

    /** "9 HIT: jump to a if that happened": in the turn behind the hit, not in the one after it. */
    private static void hit() {
        new Scene(CHECKS, "HIT").tank(10, 30, 0, Scene.FIRE, 1, 0).tank(16, 30, 0, Scene.HIT, 3, 0, Scene.LOOP, 0, 1,
            Scene.JUMP, 15, 0, Scene.SET, 0, 1)
            .turns(13).state(1, Scene.WAS_HIT, 1).state(1, Scene.REGISTER_0, 0).state(1, Scene.REGISTER_1, -13)
            .turns(1).state(1, Scene.REGISTER_0, 1).state(1, Scene.REGISTER_1, -13)
            .turns(1).state(1, Scene.REGISTER_1, -14);
        new Scene(CHECKS, "the one that fires")
            .tank(10, 30, 0, Scene.FIRE, 1, 0, Scene.HIT, 3, 0, Scene.JUMP, 15, 0, Scene.SET, 0, 1)
            .tank(16, 30, 0).turns(14).state(0, Scene.REGISTER_0, 0);
    }

    /** "10 AIMED: jump to a if it sees a tank and the sector .. is the gun's direction": each without the other. */
    private static void aimed() {
        int[] both = {Scene.WAIT, 0, 0, Scene.AIMED, 3, 0, Scene.WAIT, 0, 0, Scene.SET, 0, 9};
        new Scene(CHECKS, "both").tank(10, 10, 1, both).tank(30, 29, 0).turns(2).state(0, Scene.REGISTER_0, 9);
        int[] gunAway = {Scene.GUN, -1, 0, Scene.WAIT, 0, 0, Scene.AIMED, 4, 0, Scene.WAIT, 0, 0, Scene.SET, 0, 9};
        new Scene(CHECKS, "gun away").tank(10, 10, 1, gunAway).tank(30, 29, 0)
            .turns(1).state(0, Scene.SIGHT, 1).turns(1).state(0, Scene.REGISTER_0, 0);
        int[] radarAway = {Scene.RADAR, -1, 0, Scene.WAIT, 0, 0, Scene.AIMED, 4, 0, Scene.WAIT, 0, 0, Scene.SET, 0, 9};
        new Scene(CHECKS, "radar away").tank(10, 10, 1, radarAway).tank(30, 29, 0)
            .turns(1).state(0, Scene.SIGHT, 4).turns(1).state(0, Scene.REGISTER_0, 0);
        int[] tankAway = {Scene.TURN, -1, 0, Scene.WAIT, 0, 0, Scene.AIMED, 4, 0, Scene.WAIT, 0, 0, Scene.SET, 0, 9};
        new Scene(CHECKS, "tank away").tank(10, 10, 1, tankAway).tank(30, 29, 0)
            .turns(1).state(0, Scene.HEADING, 0).turns(1).state(0, Scene.REGISTER_0, 9);
    }

    /** A gun on another tank than the seen one is not aimed. */
    private static void aimedAtTheSeenOne() {
        int[] gunAway = {Scene.GUN, 1, 0, Scene.WAIT, 0, 0, Scene.AIMED, 4, 0, Scene.WAIT, 0, 0, Scene.SET, 0, 9};
        new Scene(CHECKS, "on another").tank(10, 10, 0, gunAway).tank(30, 30, 0).tank(30, 10, 0)
            .turns(1).state(0, Scene.SIGHT, 2).state(0, Scene.GUN_AT, 1).turns(1).state(0, Scene.REGISTER_0, 0);
    }

    /** "11 SET register a (0 or 1) to b (0 .. 100)": the other register stays. */
    private static void set() {
        for (int b : new int[] {0, 1, 99, 100}) {
            alone("SET 0", Scene.SET, 0, 55, Scene.SET, 1, 66, Scene.SET, 0, b).turns(1).state(0, Scene.REGISTER_0, b)
                .state(0, Scene.REGISTER_1, 66);
            alone("SET 1", Scene.SET, 0, 55, Scene.SET, 1, 66, Scene.SET, 1, b).turns(1).state(0, Scene.REGISTER_0, 55)
                .state(0, Scene.REGISTER_1, b);
        }
    }

    /** "12 LOOP: register b (0 or 1) becomes one less; if it is then above 0, jump to a": from 2 it jumps, from 1 and 0 not. */
    private static void loop() {
        for (int register = 0; register <= 1; register++) {
            for (int from = 0; from <= 3; from++) {
                boolean jumps = from - 1 > 0;
                alone("LOOP " + register + " from " + from, Scene.SET, 1 - register, 50, Scene.SET, register, from, Scene.LOOP, 4, register,
                    Scene.WAIT, 0, 0, Scene.WAIT, 0, 0)
                    .turns(1).state(0, Scene.REGISTER_0 + register, from - 1).state(0, Scene.REGISTER_1 - register, 50)
                    .state(0, Scene.COUNTER, jumps ? 5 : 4);
            }
        }
    }

    /** Below 0 it counts on and does not jump. */
    private static void loopBelowZero() {
        alone("LOOP below 0", Scene.LOOP, 0, 0, Scene.LOOP, 0, 1, Scene.LOOP, 0, 1, Scene.WAIT, 0, 0, Scene.JUMP, 0, 0)
            .turns(1).state(0, Scene.REGISTER_0, -1).state(0, Scene.REGISTER_1, -2).state(0, Scene.COUNTER, 4)
            .turns(1).state(0, Scene.REGISTER_0, -2).state(0, Scene.REGISTER_1, -4).state(0, Scene.COUNTER, 4);
    }

    /** A LOOP goes to each index from 3 to 15, and to 0. */
    private static void loopTo() {
        for (int a = 3; a <= 15; a++) {
            int[] program = jumpTo(Scene.LOOP, a, 1);
            System.arraycopy(new int[] {Scene.SET, 1, 100}, 0, program, 0, 3);
            alone("LOOP to " + a, program).turns(1).state(0, Scene.COUNTER, a + 1).state(0, Scene.REGISTER_1, 99);
        }
        alone("LOOP to 0", Scene.JUMP, 2, 0, Scene.WAIT, 0, 0, Scene.SET, 0, 2, Scene.WAIT, 0, 0, Scene.LOOP, 0, 0, Scene.WAIT, 0, 0)
            .turns(1).state(0, Scene.COUNTER, 4).turns(1).state(0, Scene.COUNTER, 4).state(0, Scene.REGISTER_0, 2);
    }

    public static void main(String[] args) {
        waits();
        speed();
        lastTurnCounts();
        thisTurnAlone();
        lastFireCounts();
        fireIsNotKept();
        jump();
        jumpBehindTheEnd();
        notAtFirst();
        seen();
        bumped();
        hit();
        aimed();
        aimedAtTheSeenOne();
        set();
        loop();
        loopBelowZero();
        loopTo();
        CHECKS.end();
    }
}
