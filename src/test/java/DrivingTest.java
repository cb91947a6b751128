/** Promise 4, step 4: the tanks turn, go and bump. */
public final class DrivingTest {
    private static final int[] STEP_X = {1, 1, 0, -1, -1, -1, 0, 1};
    private static final int[] STEP_Y = {0, 1, 1, 1, 0, -1, -1, -1};
    private static final Checks CHECKS = new Checks();

    private static Scene alone(String name, int x, int y, int heading, int... program) {
        return new Scene(CHECKS, name).tank(x, y, heading, program).tank(x < 32 ? 60 : 4, y < 32 ? 60 : 4, 0);
    }

    private static void goesByItsHeading() {
        for (int heading = 0; heading < 8; heading++) {
            alone("heading " + heading, 31, 31, heading, Scene.SPEED, 2, 0)
                .turns(1).place(0, 31 + 0.5 * STEP_X[heading], 31 + 0.5 * STEP_Y[heading])
                .turns(2).place(0, 31 + 2.5 * STEP_X[heading], 31 + 2.5 * STEP_Y[heading]).measure(0, Scene.VELOCITY, 1);
        }
    }

    private static void speedsUp() {
        Scene scene = alone("faster", 10, 10, 0, Scene.SPEED, 8, 0);
        for (int turn = 1; turn <= 9; turn++) {
            scene.turns(1).measure(0, Scene.VELOCITY, Math.min(4, turn * 0.5));
        }
        scene.measure(0, Scene.WISH, 4).place(0, 10 + 18 + 4, 10);
    }

    /** One turn each at the wishes 4 (8 times) and then a lower one. */
    private static Scene slowing(int wish) {
        return alone("slower to " + wish, 10, 10, 0, Scene.SET, 0, 8, Scene.SPEED, 8, 0, Scene.WAIT, 0, 0,
            Scene.LOOP, 2, 0, Scene.SPEED, wish, 0, Scene.WAIT, 0, 0, Scene.JUMP, 5, 0).turns(8).measure(0, Scene.VELOCITY, 4);
    }

    private static void slowsDown() {
        slowing(0).turns(1).measure(0, Scene.VELOCITY, 3).turns(1).measure(0, Scene.VELOCITY, 2)
            .turns(1).measure(0, Scene.VELOCITY, 1).turns(1).measure(0, Scene.VELOCITY, 0)
            .turns(1).measure(0, Scene.VELOCITY, 0).place(0, 10 + 18 + 6, 10);
        slowing(7).turns(1).measure(0, Scene.VELOCITY, 3.5).turns(1).measure(0, Scene.VELOCITY, 3.5);
        slowing(5).turns(1).measure(0, Scene.VELOCITY, 3).turns(1).measure(0, Scene.VELOCITY, 2.5)
            .turns(1).measure(0, Scene.VELOCITY, 2.5);
    }

    /** Turning is asked for in every turn; at the speed 2 it is still done, at 2 1/2 no longer. */
    private static void turnsUpToSpeedTwo() {
        alone("turning", 30, 30, 0, Scene.SPEED, 8, 0, Scene.TURN, 1, 0, Scene.GUN, -1, 0, Scene.RADAR, -1, 0)
            .turns(4).measure(0, Scene.VELOCITY, 2).state(0, Scene.HEADING, 4)
            .turns(1).measure(0, Scene.VELOCITY, 2.5).state(0, Scene.HEADING, 5)
            .turns(1).measure(0, Scene.VELOCITY, 3).state(0, Scene.HEADING, 5)
            .state(0, Scene.GUN_AT, 2).state(0, Scene.RADAR_AT, 2)
            .turns(1).state(0, Scene.HEADING, 5).state(0, Scene.GUN_AT, 1).state(0, Scene.RADAR_AT, 1);
    }

    private static void turnsRound() {
        alone("from 7 to 0", 30, 30, 7, Scene.TURN, 1, 0).turns(1).state(0, Scene.HEADING, 0).state(0, Scene.GUN_AT, 7)
            .state(0, Scene.RADAR_AT, 7);
        alone("from 0 to 7", 30, 30, 0, Scene.TURN, -1, 0).turns(1).state(0, Scene.HEADING, 7);
        alone("gun from 7 to 0", 30, 30, 7, Scene.GUN, 1, 0).turns(1).state(0, Scene.GUN_AT, 0).state(0, Scene.HEADING, 7);
        alone("radar from 0 to 7", 30, 30, 0, Scene.RADAR, -1, 0).turns(1).state(0, Scene.RADAR_AT, 7)
            .state(0, Scene.HEADING, 0).state(0, Scene.GUN_AT, 0);
        alone("turns before it goes", 30, 30, 0, Scene.SPEED, 1, 0, Scene.TURN, 1, 0).turns(1).place(0, 30.5, 30.5);
    }

    private static void walls() {
        alone("right wall", 61, 30, 0, Scene.SPEED, 8, 0)
            .turns(1).place(0, 61.5, 30).state(0, Scene.HAS_BUMPED, 0)
            .turns(1).place(0, 62, 30).state(0, Scene.HAS_BUMPED, 1).measure(0, Scene.ENERGY, 99.5).measure(0, Scene.VELOCITY, 0)
            .turns(1).place(0, 62, 30).state(0, Scene.HAS_BUMPED, 1).measure(0, Scene.ENERGY, 99.25);
        alone("up to the wall", 60, 30, 0, Scene.SPEED, 2, 0)
            .turns(2).place(0, 61.5, 30).state(0, Scene.HAS_BUMPED, 0).measure(0, Scene.ENERGY, 100);
        alone("on the wall's line", 61, 30, 0, Scene.SPEED, 1, 0)
            .turns(2).place(0, 62, 30).state(0, Scene.HAS_BUMPED, 0).measure(0, Scene.ENERGY, 100).measure(0, Scene.VELOCITY, 0.5);
        alone("left wall", 2, 30, 4, Scene.SPEED, 1, 0).turns(1).place(0, 2, 30).state(0, Scene.HAS_BUMPED, 1)
            .measure(0, Scene.ENERGY, 99.75);
        alone("upper wall", 30, 62, 2, Scene.SPEED, 1, 0).turns(1).place(0, 30, 62).state(0, Scene.HAS_BUMPED, 1);
        alone("lower wall", 30, 2, 6, Scene.SPEED, 1, 0).turns(1).place(0, 30, 2).state(0, Scene.HAS_BUMPED, 1);
        alone("along the wall", 30, 2, 7, Scene.SPEED, 1, 0).turns(1).place(0, 30.5, 2).state(0, Scene.HAS_BUMPED, 1);
        alone("the corner, once", 62, 62, 1, Scene.SPEED, 1, 0).turns(1).place(0, 62, 62).measure(0, Scene.ENERGY, 99.75);
        alone("hard", 42, 30, 0, Scene.SPEED, 8, 0).turns(8).place(0, 60, 30).turns(1).place(0, 62, 30)
            .measure(0, Scene.ENERGY, 98).measure(0, Scene.VELOCITY, 0).measure(0, Scene.WISH, 4);
    }

    private static void tanksTouch() {
        new Scene(CHECKS, "a gap of 4").tank(10, 10, 0, Scene.SPEED, 1, 0).tank(15, 10, 0)
            .turns(2).place(0, 11, 10).state(0, Scene.HAS_BUMPED, 0)
            .turns(1).place(0, 11, 10).state(0, Scene.HAS_BUMPED, 1).state(1, Scene.HAS_BUMPED, 0)
            .measure(0, Scene.ENERGY, 99.5).measure(1, Scene.ENERGY, 99.5).measure(0, Scene.VELOCITY, 0);
        new Scene(CHECKS, "passing by").tank(10, 10, 0, Scene.SPEED, 1, 0).tank(14, 14, 0)
            .turns(10).place(0, 15, 10).measure(1, Scene.ENERGY, 100);
        new Scene(CHECKS, "the other keeps its speed").tank(10, 10, 0, Scene.SPEED, 8, 0).tank(14, 10, 2, Scene.SPEED, 8, 0)
            .turns(1).state(0, Scene.HAS_BUMPED, 1).state(1, Scene.HAS_BUMPED, 0).measure(1, Scene.VELOCITY, 0.5).place(1, 14, 10.5);
        new Scene(CHECKS, "the one behind moves off later").tank(14, 10, 0, Scene.SPEED, 1, 0).tank(10, 10, 0, Scene.SPEED, 1, 0)
            .turns(2).place(0, 15, 10).place(1, 11, 10).state(1, Scene.HAS_BUMPED, 0);
        new Scene(CHECKS, "the one in front moves later").tank(10, 10, 0, Scene.SPEED, 1, 0).tank(14, 10, 0, Scene.SPEED, 1, 0)
            .turns(1).place(0, 10, 10).place(1, 14.5, 10).state(0, Scene.HAS_BUMPED, 1);
    }

    private static void twoTouched() {
        new Scene(CHECKS, "the least number").tank(14, 8, 0).tank(14, 12, 0).tank(10, 10, 0, Scene.SPEED, 1, 0)
            .turns(1).measure(0, Scene.ENERGY, 99.5).measure(1, Scene.ENERGY, 100).measure(2, Scene.ENERGY, 99.5)
            .place(2, 10, 10);
    }

    /** Heading 1 into the upper wall and a tank at once: x goes back too. */
    private static void wallAndTank() {
        new Scene(CHECKS, "wall and tank").tank(10, 62, 1, Scene.SPEED, 1, 0).tank(14, 62, 0)
            .turns(1).place(0, 10, 62).state(0, Scene.HAS_BUMPED, 1).measure(0, Scene.ENERGY, 100 - 0.25 - 0.5)
            .measure(1, Scene.ENERGY, 99.5).measure(0, Scene.VELOCITY, 0);
        new Scene(CHECKS, "back behind the wall's line").tank(10, 61, 1, Scene.SPEED, 4, 0).tank(15, 62, 0)
            .turns(1).place(0, 10.5, 61.5)
            .turns(1).place(0, 10.5, 61.5).measure(0, Scene.ENERGY, 100 - 0.5 - 0.5).measure(1, Scene.ENERGY, 99.5);
    }

    /** 400 quarters are spent at the wall. */
    private static void diesAtTheWall() {
        new Scene(CHECKS, "spent at the wall").tank(62, 30, 0, Scene.SPEED, 1, 0).tank(30, 30, 0)
            .turns(399).measure(0, Scene.ENERGY, 0.25).state(0, Scene.ALIVE, 1)
            .turns(1).measure(0, Scene.ENERGY, 0).state(0, Scene.ALIVE, 0).state(0, Scene.HAS_BUMPED, 1)
            .measure(1, Scene.SCORE, 50).count(Scene.LIVING, 1);
    }

    /** Tank 0 shoves tank 1 by 40 times 1/2 and hits it 5 times; dead, it no longer stands in the way. */
    private static void deadAreNotTouched() {
        new Scene(CHECKS, "through the dead")
            .tank(10, 10, 0, Scene.FIRE, 3, 0, Scene.SPEED, 1, 0).tank(14, 10, 2).tank(50, 50, 0)
            .turns(40).state(1, Scene.ALIVE, 1).measure(1, Scene.ENERGY, 16).place(0, 10, 10)
            .turns(1).state(1, Scene.ALIVE, 0).place(0, 10.5, 10).state(0, Scene.HAS_BUMPED, 0)
            .turns(8).place(0, 14.5, 10).place(1, 14, 10);
    }

    private static void cools() {
        alone("heat", 10, 10, 0).measure(0, Scene.HEAT, 3).turns(1).measure(0, Scene.HEAT, 2.75)
            .turns(11).measure(0, Scene.HEAT, 0).turns(1).measure(0, Scene.HEAT, 0);
    }

    public static void main(String[] args) {
        goesByItsHeading();
        speedsUp();
        slowsDown();
        turnsUpToSpeedTwo();
        turnsRound();
        walls();
        tanksTouch();
        twoTouched();
        wallAndTank();
        diesAtTheWall();
        deadAreNotTouched();
        cools();
        CHECKS.end();
    }
}
