/** Step 4, the edges: the speed that still turns, the wish, the walls at 2 and 62, the touch, the last energy, the heat of 0. */
public final class DrivingEdgesTest {
    private static final Checks CHECKS = new Checks();
    private static final int[] STEP_X = {1, 1, 0, -1, -1, -1, 0, 1};
    private static final int[] STEP_Y = {0, 1, 1, 1, 0, -1, -1, -1};

    private static Scene alone(String name, int x, int y, int heading, int... program) {
        return new Scene(CHECKS, name).tank(x, y, heading, program).tank(x < 32 ? 60 : 4, y < 32 ? 60 : 4, 0);
    }

    /** "it turns as asked if its speed is at most 2; gun and radar turn as asked": one turn asked for at each speed. */
    private static void turningSpeed() {
        for (int turns = 1; turns <= 8; turns++) {
            boolean turned = turns <= 4;
            alone("turning at " + turns + " halves", 4, 30, 0, Scene.SET, 0, turns, Scene.SPEED, 8, 0, Scene.WAIT, 0, 0, Scene.LOOP, 2, 0,
                Scene.TURN, 1, 0, Scene.GUN, 1, 0, Scene.RADAR, -1, 0, Scene.SPEED, 0, 0, Scene.WAIT, 0, 0, Scene.JUMP, 8, 0)
                .turns(turns).measure(0, Scene.VELOCITY, 0.5 * turns).state(0, Scene.HEADING, 0)
                .turns(1).state(0, Scene.HEADING, turned ? 1 : 0).state(0, Scene.GUN_AT, 1).state(0, Scene.RADAR_AT, 7)
                // What was not done is not done later, when the tank is slow again.
                .turns(5).measure(0, Scene.VELOCITY, 0).state(0, Scene.HEADING, turned ? 1 : 0);
        }
    }

    /** The speed before this turn's change counts: 2 turns though it is 2 1/2 then, 2 1/2 does not though it is 1 1/2 then. */
    private static void turningBeforeTheChange() {
        int[] faster = {Scene.SET, 0, 4, Scene.SPEED, 8, 0, Scene.WAIT, 0, 0, Scene.LOOP, 2, 0, Scene.TURN, 1, 0};
        alone("2 to 2 1/2", 4, 30, 0, faster).turns(5).measure(0, Scene.VELOCITY, 2.5).state(0, Scene.HEADING, 1);
        int[] slower = {Scene.SET, 0, 5, Scene.SPEED, 8, 0, Scene.WAIT, 0, 0, Scene.LOOP, 2, 0, Scene.TURN, 1, 0, Scene.SPEED, 0, 0};
        alone("2 1/2 to 1 1/2", 4, 30, 0, slower).turns(6).measure(0, Scene.VELOCITY, 1.5).state(0, Scene.HEADING, 0);
    }

    /** Eight turns with the one wish, then one with the other. */
    private static Scene wishes(int first, int then) {
        return alone("wish " + first + " halves, then " + then, 4, 30, 0, Scene.SET, 0, 8, Scene.SPEED, first, 0, Scene.WAIT, 0, 0,
            Scene.LOOP, 2, 0, Scene.SPEED, then, 0, Scene.WAIT, 0, 0, Scene.JUMP, 5, 0).turns(8)
                .measure(0, Scene.VELOCITY, first * 0.5);
    }

    /** "If the wish .. is above the speed, this is 1/2 more; if it is below, 1 less but not below the wish": each pair. */
    private static void wishAndSpeed() {
        for (int first = 0; first <= 8; first++) {
            for (int then = 0; then <= 8; then++) {
                double speed = first * 0.5;
                double wish = then * 0.5;
                double due = wish > speed ? speed + 0.5 : wish >= speed - 1 ? wish : speed - 1;
                Scene scene = wishes(first, then);
                double x = scene.arena.measure(0, Scene.X) / 8.0;
                scene.turns(1).measure(0, Scene.VELOCITY, due).measure(0, Scene.WISH, wish).place(0, x + due, 30)
                    .turns(8).measure(0, Scene.VELOCITY, wish);
            }
        }
    }

    /** "(0 for a disabled one)": from 2 in the turn of its third skip to 1, then to 0 and not below. */
    private static void disabledSlowsDown() {
        alone("disabled", 4, 30, 0, Scene.SPEED, 8, 0, Scene.WAIT, 0, 0, Scene.WAIT, 0, 0, Scene.JUMP, 3, 0)
            .turns(4).measure(0, Scene.VELOCITY, 2).state(0, Scene.SKIPS, 2)
            .turns(1).measure(0, Scene.VELOCITY, 1).state(0, Scene.SKIPS, 3).place(0, 4 + 5 + 1, 30)
            .turns(1).measure(0, Scene.VELOCITY, 0).place(0, 10, 30)
            .turns(3).measure(0, Scene.VELOCITY, 0).place(0, 10, 30);
    }

    /** A tank that speeds up towards the wall of its heading, along the middle line; far is its way to the wall. */
    private static Scene towards(int heading, int far) {
        int x = STEP_X[heading] > 0 ? 62 - far : STEP_X[heading] < 0 ? 2 + far : 20;
        int y = STEP_Y[heading] > 0 ? 62 - far : STEP_Y[heading] < 0 ? 2 + far : 20;
        return alone("heading " + heading + ", " + far + " to the wall", x, y, heading, Scene.SPEED, 8, 0);
    }

    private static void placedOnTheWall(Scene scene, int heading) {
        if (STEP_X[heading] != 0) {
            scene.measure(0, Scene.X, STEP_X[heading] > 0 ? 62 : 2);
        }
        if (STEP_Y[heading] != 0) {
            scene.measure(0, Scene.Y, STEP_Y[heading] > 0 ? 62 : 2);
        }
    }

    /**
     * "A coordinate below 2 or above 62 becomes 2 or 62": behind so many turns the way is 3, 5, 14 or 18, which ends on the
     * wall's line without a bump; and "energy is less by half the speed": each way that ends beyond it.
     */
    private static void walls() {
        for (int heading = 0; heading < 8; heading++) {
            double way = 0;
            for (int turns = 1; turns <= 8; turns++) {
                double speed = 0.5 * turns;
                way += speed;
                int beyond = (int) Math.ceil(way) - 1;
                Scene scene = towards(heading, beyond).turns(turns - 1).state(0, Scene.HAS_BUMPED, 0)
                    .measure(0, Scene.ENERGY, 100)
                    .turns(1).state(0, Scene.HAS_BUMPED, 1).measure(0, Scene.ENERGY, 100 - speed / 2)
                    .measure(0, Scene.VELOCITY, 0)
                    .measure(0, Scene.WISH, 4);
                placedOnTheWall(scene, heading);
                if (way == Math.floor(way)) {
                    Scene onIt = towards(heading, (int) way).turns(turns).state(0, Scene.HAS_BUMPED, 0)
                        .measure(0, Scene.ENERGY, 100)
                        .measure(0, Scene.VELOCITY, speed);
                    placedOnTheWall(onIt, heading);
                }
            }
        }
    }

    /** Standing on the wall's line with its heading outwards is no bump, nor is going along it. */
    private static void onTheWallsLine() {
        alone("standing", 62, 30, 0).turns(3).place(0, 62, 30).state(0, Scene.HAS_BUMPED, 0).measure(0, Scene.ENERGY, 100);
        alone("along the right", 62, 30, 2, Scene.SPEED, 2, 0).turns(3).place(0, 62, 32.5).state(0, Scene.HAS_BUMPED, 0)
            .measure(0, Scene.ENERGY, 100);
        alone("along the bottom", 30, 2, 4, Scene.SPEED, 2, 0).turns(3).place(0, 27.5, 2).state(0, Scene.HAS_BUMPED, 0)
            .measure(0, Scene.ENERGY, 100);
        alone("off the wall", 62, 62, 5, Scene.SPEED, 2, 0).turns(1).place(0, 61.5, 61.5).state(0, Scene.HAS_BUMPED, 0);
    }

    /** Only the coordinate that is beyond becomes 2 or 62; and in a corner the energy is less once. */
    private static void slantIntoTheWall() {
        alone("right, upwards", 62, 30, 1, Scene.SPEED, 1, 0).turns(1).place(0, 62, 30.5).measure(0, Scene.ENERGY, 99.75);
        alone("top, to the left", 30, 62, 3, Scene.SPEED, 1, 0).turns(1).place(0, 29.5, 62).measure(0, Scene.ENERGY, 99.75);
        alone("left, downwards", 2, 30, 5, Scene.SPEED, 1, 0).turns(1).place(0, 2, 29.5).measure(0, Scene.ENERGY, 99.75);
        alone("bottom, to the right", 30, 2, 7, Scene.SPEED, 1, 0).turns(1).place(0, 30.5, 2).measure(0, Scene.ENERGY, 99.75);
        int[] corners = {1, 3, 5, 7};
        for (int heading : corners) {
            int x = STEP_X[heading] > 0 ? 62 : 2;
            int y = STEP_Y[heading] > 0 ? 62 : 2;
            alone("corner " + heading, x, y, heading, Scene.SPEED, 1, 0).turns(1).place(0, x, y).measure(0, Scene.ENERGY, 99.75)
                .state(0, Scene.HAS_BUMPED, 1);
        }
    }

    /** "it goes back to the place that it had before step 4, it has BUMPED, and both lose 1/2 energy": at speed 4, and only it. */
    private static void goesBack() {
        new Scene(CHECKS, "fast").tank(4, 30, 0, Scene.SPEED, 8, 0).tank(29, 30, 0, Scene.WAIT, 0, 0)
            .turns(8).place(0, 22, 30).measure(0, Scene.VELOCITY, 4)
            .turns(1).place(0, 22, 30).measure(0, Scene.VELOCITY, 0).state(0, Scene.HAS_BUMPED, 1).state(1, Scene.HAS_BUMPED, 0)
            .measure(0, Scene.ENERGY, 99.5).measure(1, Scene.ENERGY, 99.5).measure(0, Scene.WISH, 4)
            .turns(1).place(0, 22.5, 30).measure(0, Scene.VELOCITY, 0.5).state(0, Scene.HAS_BUMPED, 0);
    }

    /** "After a bump its speed is 0", not the other one's: tank 1 runs into tank 0 from the side. */
    private static void otherKeepsItsSpeed() {
        new Scene(CHECKS, "from the side").tank(30, 20, 2, Scene.SPEED, 4, 0)
            .tank(26, 26, 0, Scene.WAIT, 0, 0, Scene.WAIT, 0, 0, Scene.WAIT, 0, 0,
            Scene.SPEED, 1, 0, Scene.WAIT, 0, 0)
            .turns(3).place(0, 30, 23).measure(0, Scene.VELOCITY, 1.5).state(1, Scene.HAS_BUMPED, 0)
            .turns(1).place(0, 30, 25).measure(0, Scene.VELOCITY, 2).state(0, Scene.HAS_BUMPED, 0).measure(0, Scene.ENERGY, 99.5)
            .place(1, 26, 26).measure(1, Scene.VELOCITY, 0).state(1, Scene.HAS_BUMPED, 1).measure(1, Scene.ENERGY, 99.5)
            .turns(1).place(0, 30, 27).measure(0, Scene.VELOCITY, 2);
    }

    /** What it turned stays turned, and the other one goes on with its own speed. */
    private static void goesBackTurned() {
        new Scene(CHECKS, "turned").tank(30, 30, 1, Scene.TURN, -1, 0, Scene.GUN, 1, 0, Scene.SPEED, 1, 0)
            .tank(34, 30, 2, Scene.SPEED, 1, 0)
            .turns(1).place(0, 30, 30).state(0, Scene.HEADING, 0).state(0, Scene.GUN_AT, 2).state(0, Scene.HAS_BUMPED, 1)
            .place(1, 34, 30.5).measure(1, Scene.VELOCITY, 0.5);
    }

    /** "(the other one being the one with the least number)": of two touched at once, in both orders. */
    private static void leastNumberTouched() {
        new Scene(CHECKS, "bumps 0 and 1").tank(34, 28, 0).tank(34, 32, 0).tank(30, 30, 0, Scene.SPEED, 1, 0)
            .turns(1).measure(0, Scene.ENERGY, 99.5).measure(1, Scene.ENERGY, 100).measure(2, Scene.ENERGY, 99.5);
        new Scene(CHECKS, "bumps 1 and 2").tank(30, 30, 0, Scene.SPEED, 1, 0).tank(34, 32, 0).tank(34, 28, 0)
            .turns(1).measure(0, Scene.ENERGY, 99.5).measure(1, Scene.ENERGY, 99.5).measure(2, Scene.ENERGY, 100);
    }

    /** Wall and tank in one turn: both losses, the place before, a speed of 0. */
    private static void wallAndTank() {
        new Scene(CHECKS, "wall and tank").tank(30, 62, 1, Scene.SPEED, 1, 0).tank(34, 62, 0)
            .turns(1).place(0, 30, 62).measure(0, Scene.ENERGY, 99.25).measure(1, Scene.ENERGY, 99.5)
            .measure(0, Scene.VELOCITY, 0)
            .state(0, Scene.HAS_BUMPED, 1);
        new Scene(CHECKS, "back from the wall").tank(30, 61, 1, Scene.SPEED, 2, 0).tank(35, 62, 0)
            .turns(1).place(0, 30.5, 61.5).turns(1).place(0, 30.5, 61.5).measure(0, Scene.ENERGY, 99)
            .measure(1, Scene.ENERGY, 99.5);
    }

    /** "Tanks whose energy is not above 0 are then no longer alive": at the wall, 1/4 and 0. */
    private static void lastEnergyAtTheWall() {
        new Scene(CHECKS, "at the wall").tank(62, 30, 0, Scene.SPEED, 1, 0).tank(30, 30, 0)
            .turns(399).measure(0, Scene.ENERGY, 0.25).state(0, Scene.ALIVE, 1).count(Scene.LIVING, 2)
            .turns(1).measure(0, Scene.ENERGY, 0).state(0, Scene.ALIVE, 0).count(Scene.LIVING, 1).state(0, Scene.HAS_BUMPED, 1);
    }

    /** The one that bumps: 1/2 is alive, 0 is not; and with the wall besides, 1/4 is alive, -1/2 is not. */
    private static void lastEnergyOfTheOneThatBumps() {
        new Scene(CHECKS, "bumps").tank(30, 30, 0, Scene.SPEED, 1, 0).tank(34, 30, 0)
            .turns(199).measure(0, Scene.ENERGY, 0.5).state(0, Scene.ALIVE, 1)
            .turns(1).measure(0, Scene.ENERGY, 0).state(0, Scene.ALIVE, 0).state(0, Scene.HAS_BUMPED, 1);
        new Scene(CHECKS, "bumps at the wall").tank(30, 62, 1, Scene.SPEED, 1, 0).tank(34, 62, 0)
            .turns(133).measure(0, Scene.ENERGY, 0.25).state(0, Scene.ALIVE, 1)
            .turns(1).measure(0, Scene.ENERGY, -0.5).state(0, Scene.ALIVE, 0).state(1, Scene.ALIVE, 1)
            .measure(1, Scene.ENERGY, 33);
    }

    /** Tanks 0 and 2 bump into tank 1 from both sides in every turn; before that it loses quarters at the upper wall. */
    private static Scene between(int quarters) {
        int[] program = {Scene.SET, 0, quarters, Scene.SPEED, 1, 0, Scene.WAIT, 0, 0, Scene.LOOP, 2, 0, Scene.SPEED, 0, 0,
            Scene.GUN, 1, 0, Scene.WAIT, 0, 0, Scene.JUMP, 5, 0};
        return new Scene(CHECKS, "between, " + quarters + " quarters less").tank(26, 62, 0, Scene.SPEED, 1, 0)
            .tank(30, 62, 2, program)
            .tank(34, 62, 4, Scene.SPEED, 1, 0).turns(99).measure(1, Scene.ENERGY, 1 - 0.25 * quarters);
    }

    /** The one that is bumped into: behind the bump of tank 0 in turn 100 it has 1/4 and is there for tank 2's, or 0 and is not. */
    private static void lastEnergyOfTheOther() {
        between(1).turns(1).measure(1, Scene.ENERGY, -0.25).state(1, Scene.ALIVE, 0).state(2, Scene.HAS_BUMPED, 1)
            .place(2, 34, 62)
            .measure(2, Scene.ENERGY, 50).state(0, Scene.HAS_BUMPED, 1);
        between(2).turns(1).measure(1, Scene.ENERGY, 0).state(1, Scene.ALIVE, 0).state(2, Scene.HAS_BUMPED, 0).place(2, 33.5, 62)
            .measure(2, Scene.ENERGY, 50.5).state(0, Scene.HAS_BUMPED, 1).place(0, 26, 62);
    }

    /** "each tank" means the tanks alive then: dead by tank 0's bump, tank 1 has no part of its own; dead by tank 2's, it had one. */
    private static void aliveThen() {
        between(1).state(1, Scene.GUN_AT, (2 + 98) % 8).turns(1).state(1, Scene.GUN_AT, (2 + 99) % 8).state(1, Scene.ALIVE, 0);
        between(2).state(1, Scene.GUN_AT, (2 + 97) % 8).turns(1).state(1, Scene.GUN_AT, (2 + 97) % 8).state(1, Scene.ALIVE, 0);
    }

    /** "if it touches another tank alive": in turn 103 both are within 4 of the dead one at 30, 62. */
    private static void deadAreNotTouched() {
        between(2).turns(4).place(0, 27.5, 62).place(2, 32, 62).place(1, 30, 62).state(1, Scene.ALIVE, 0)
            .measure(0, Scene.ENERGY, 50).measure(1, Scene.ENERGY, 0).measure(2, Scene.ENERGY, 50.5)
            .state(0, Scene.HAS_BUMPED, 0);
    }

    /** "Its heat is 1/4 less, not below 0": 1/4, 0 and 0 again; so too for one that bumps and one that is disabled. */
    private static void heatNotBelowZero() {
        Scene scene = new Scene(CHECKS, "heat").tank(62, 30, 0, Scene.SPEED, 1, 0).tank(30, 30, 0, Scene.JUMP, 0, 0)
            .tank(4, 4, 0);
        for (int turn = 1; turn <= 15; turn++) {
            scene.turns(1);
            for (int tank = 0; tank < 3; tank++) {
                scene.measure(tank, Scene.HEAT, turn <= 12 ? 3 - 0.25 * turn : 0);
            }
        }
        scene.state(0, Scene.HAS_BUMPED, 1).state(1, Scene.SKIPS, 3);
    }

    /**
     * The heat of one that dies in its bump is 1/4 less in that turn too, and from then on it stays: tank 0 stands on the
     * wall's line behind turn 4, loses 1/4 in each turn from the fifth on and fires in the turns 13, 18 .. 228. Before the
     * last of them it has 1 1/4, so that the wall takes its last 1/4 while the gun is hot.
     */
    private static void heatOfTheDying() {
        Scene scene = new Scene(CHECKS, "heat of the dying").tank(4, 30, 4, Scene.SPEED, 1, 0, Scene.FIRE, 1, 0)
            .tank(30, 30, 0).tank(50, 50, 0)
            .turns(227).measure(0, Scene.ENERGY, 1.25).measure(0, Scene.HEAT, 0).state(0, Scene.ALIVE, 1).count(Scene.SHOTS, 43)
            .turns(1).measure(0, Scene.ENERGY, 0).state(0, Scene.ALIVE, 0).count(Scene.SHOTS, 44).measure(0, Scene.HEAT, 1);
        for (int turn = 229; turn <= 234; turn++) {
            scene.turns(1).measure(0, Scene.HEAT, 1).measure(0, Scene.ENERGY, 0);
        }
    }

    /** "by rising numbers": the tank in front makes room for the one behind only if its number is less. */
    private static void byRisingNumbers() {
        new Scene(CHECKS, "front first").tank(34, 30, 0, Scene.SPEED, 1, 0).tank(30, 30, 0, Scene.SPEED, 1, 0)
            .turns(1).place(0, 34.5, 30).place(1, 30.5, 30).state(1, Scene.HAS_BUMPED, 0);
        new Scene(CHECKS, "behind first").tank(30, 30, 0, Scene.SPEED, 1, 0).tank(34, 30, 0, Scene.SPEED, 1, 0)
            .turns(1).place(0, 30, 30).place(1, 34.5, 30).state(0, Scene.HAS_BUMPED, 1);
    }

    public static void main(String[] args) {
        turningSpeed();
        turningBeforeTheChange();
        wishAndSpeed();
        disabledSlowsDown();
        walls();
        onTheWallsLine();
        slantIntoTheWall();
        goesBack();
        otherKeepsItsSpeed();
        goesBackTurned();
        leastNumberTouched();
        wallAndTank();
        lastEnergyAtTheWall();
        lastEnergyOfTheOneThatBumps();
        lastEnergyOfTheOther();
        aliveThen();
        deadAreNotTouched();
        heatNotBelowZero();
        heatOfTheDying();
        byRisingNumbers();
        CHECKS.end();
    }
}
