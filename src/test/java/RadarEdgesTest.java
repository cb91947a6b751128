/** Step 5, the edges: the nearest by half a unit, several at one distance, none, and the dead. */
public final class RadarEdgesTest {
    private static final Checks CHECKS = new Checks();

    /** "the nearest one": half a unit nearer is nearer, whatever its number. */
    private static void nearestByHalf() {
        new Scene(CHECKS, "the second is nearer").tank(10, 30, 0).tank(40, 30, 0).tank(40, 34, 4, Scene.halfAStep())
            .turns(1).state(0, Scene.SIGHT, 2).measure(0, Scene.DISTANCE, 29.5);
        new Scene(CHECKS, "the first is nearer").tank(10, 30, 0).tank(40, 34, 4, Scene.halfAStep()).tank(40, 30, 0)
            .turns(1).state(0, Scene.SIGHT, 1).measure(0, Scene.DISTANCE, 29.5);
        new Scene(CHECKS, "the third is nearest").tank(10, 30, 0).tank(41, 36, 0).tank(40, 30, 0)
            .tank(40, 25, 4, Scene.halfAStep())
            .turns(1).state(0, Scene.SIGHT, 3).measure(0, Scene.DISTANCE, 29.5);
    }

    /** "the least number if there are several": at one distance, by whichever coordinate. */
    private static void severalAtOneDistance() {
        new Scene(CHECKS, "two by x").tank(10, 30, 0).tank(40, 34, 0).tank(40, 30, 0).turns(1).state(0, Scene.SIGHT, 1)
            .measure(0, Scene.DISTANCE, 30);
        new Scene(CHECKS, "three").tank(40, 30, 0).tank(40, 35, 0).tank(40, 25, 0).tank(10, 30, 0).turns(1)
            .state(3, Scene.SIGHT, 0);
        new Scene(CHECKS, "around the one that looks").tank(40, 34, 0).tank(10, 30, 0).tank(40, 30, 0).turns(1)
            .state(1, Scene.SIGHT, 0);
        new Scene(CHECKS, "one by x, one by y").tank(10, 10, 1).tank(30, 22, 0).tank(22, 30, 0).turns(1).state(0, Scene.SIGHT, 1)
            .measure(0, Scene.DISTANCE, 20);
        new Scene(CHECKS, "one by y, one by x").tank(10, 10, 1).tank(22, 30, 0).tank(30, 22, 0).turns(1).state(0, Scene.SIGHT, 1)
            .measure(0, Scene.DISTANCE, 20);
    }

    /** "the distance being the greater of the sizes of dx and dy": in each quadrant, not their sum or the lesser one. */
    private static void greaterOfBoth() {
        int[] signsX = {1, -1, -1, 1};
        int[] signsY = {1, 1, -1, -1};
        for (int i = 0; i < 4; i++) {
            new Scene(CHECKS, "dx greater").tank(32, 32, 2 * i + 1).tank(32 + 20 * signsX[i], 32 + 19 * signsY[i], 0)
                .turns(1).state(0, Scene.SIGHT, 1).measure(0, Scene.DISTANCE, 20);
            new Scene(CHECKS, "dy greater").tank(32, 32, 2 * i + 1).tank(32 + 19 * signsX[i], 32 + 20 * signsY[i], 0)
                .turns(1).state(0, Scene.SIGHT, 1).measure(0, Scene.DISTANCE, 20);
        }
        new Scene(CHECKS, "the sum is less, the greater is not").tank(32, 32, 1).tank(52, 43, 0).tank(51, 50, 0)
            .turns(1).state(0, Scene.SIGHT, 2).measure(0, Scene.DISTANCE, 19);
    }

    /** The least and the greatest distance that there can be. */
    private static void leastAndGreatest() {
        new Scene(CHECKS, "side by side").tank(10, 10, 0).tank(14, 10, 4).turns(1).measure(0, Scene.DISTANCE, 4)
            .measure(1, Scene.DISTANCE, 4);
        new Scene(CHECKS, "corner to corner").tank(2, 2, 1).tank(62, 62, 5).turns(1).measure(0, Scene.DISTANCE, 60)
            .measure(1, Scene.DISTANCE, 60);
    }

    /** "or none": no tank in the radar's direction; what was seen a turn before is not seen on. */
    private static void none() {
        new Scene(CHECKS, "none").tank(10, 10, 0, Scene.WAIT, 0, 0, Scene.RADAR, 1, 0, Scene.WAIT, 0, 0).tank(40, 10, 0)
            .turns(1).state(0, Scene.SIGHT, 1).measure(0, Scene.DISTANCE, 30).state(1, Scene.SIGHT, 4)
            .measure(1, Scene.DISTANCE, 0)
            .turns(1).state(0, Scene.SIGHT, 4).measure(0, Scene.DISTANCE, 0)
            .turns(1).state(0, Scene.SIGHT, 4);
        for (int radar = 0; radar < 8; radar++) {
            // Only the others count: itself is never seen.
            new Scene(CHECKS, "radar " + radar).tank(2, 2, radar).tank(62, 10, 0).turns(1)
                .state(0, Scene.SIGHT, radar == 0 ? 1 : 4);
        }
    }

    /** The radar looks by its new direction, from and to the places behind step 4. */
    private static void behindStepFour() {
        new Scene(CHECKS, "turned to it").tank(10, 10, 7, Scene.RADAR, 1, 0).tank(40, 10, 0, Scene.SPEED, 1, 0)
            .turns(1).state(0, Scene.SIGHT, 1).measure(0, Scene.DISTANCE, 30.5);
        new Scene(CHECKS, "both moved").tank(10, 10, 0, Scene.SPEED, 1, 0).tank(40, 10, 4, Scene.SPEED, 1, 0)
            .turns(1).measure(0, Scene.DISTANCE, 29).measure(1, Scene.DISTANCE, 29);
        // 20 and 10 is still direction 0; with half a unit more in y it is not.
        new Scene(CHECKS, "moved out of the sector").tank(10, 10, 0)
            .tank(30, 20, 2, Scene.WAIT, 0, 0, Scene.SPEED, 1, 0, Scene.WAIT, 0, 0)
            .turns(1).state(0, Scene.SIGHT, 1).turns(1).state(0, Scene.SIGHT, 4);
    }

    /** "A tank that is no longer alive sees none", and none sees it: tank 1 dies in turn 55. */
    private static void theDead() {
        new Scene(CHECKS, "dead").tank(10, 10, 0, Scene.FIRE, 3, 0).tank(15, 10, 4).tank(40, 10, 4)
            .turns(54).state(0, Scene.SIGHT, 1).measure(0, Scene.DISTANCE, 5).state(1, Scene.SIGHT, 0).state(2, Scene.SIGHT, 1)
            .turns(1).state(0, Scene.SIGHT, 2).measure(0, Scene.DISTANCE, 30).state(1, Scene.SIGHT, 4)
            .measure(1, Scene.DISTANCE, 0)
            .state(2, Scene.SIGHT, 0).measure(2, Scene.DISTANCE, 30)
            .turns(1).state(1, Scene.SIGHT, 4).measure(1, Scene.DISTANCE, 0);
    }

    /** A tank that dies in step 4 behind its own move, by a tank with a greater number, sees none too. */
    private static void deadInStepFour() {
        new Scene(CHECKS, "dead in step 4").tank(10, 10, 0).tank(14, 10, 4, Scene.SPEED, 1, 0).tank(50, 10, 4)
            .turns(199).state(0, Scene.SIGHT, 1).state(2, Scene.SIGHT, 1)
            .turns(1).state(0, Scene.ALIVE, 0).state(1, Scene.ALIVE, 0).state(0, Scene.SIGHT, 4).measure(0, Scene.DISTANCE, 0)
            .state(1, Scene.SIGHT, 4).state(2, Scene.SIGHT, 4).measure(2, Scene.DISTANCE, 0);
    }

    /** "told for the turn in which that was alone, as for the others": hit and bumped, of the living and of the dead. */
    private static void toldForOneTurn() {
        new Scene(CHECKS, "hit").tank(10, 10, 0, Scene.FIRE, 3, 0).tank(15, 10, 2).tank(50, 50, 0)
            .turns(12).state(1, Scene.WAS_HIT, 0).turns(1).state(1, Scene.WAS_HIT, 1).turns(1).state(1, Scene.WAS_HIT, 0)
            .turns(41).state(1, Scene.ALIVE, 0).state(1, Scene.WAS_HIT, 1).turns(1).state(1, Scene.WAS_HIT, 0);
        new Scene(CHECKS, "bumped").tank(10, 10, 0, Scene.SPEED, 1, 0).tank(14, 10, 0).tank(50, 50, 0).tank(50, 40, 0)
            .turns(200).state(0, Scene.ALIVE, 0).state(0, Scene.HAS_BUMPED, 1).state(1, Scene.HAS_BUMPED, 0)
            .turns(1).state(0, Scene.HAS_BUMPED, 0);
        new Scene(CHECKS, "bumped once").tank(62, 30, 0, Scene.SPEED, 1, 0, Scene.WAIT, 0, 0, Scene.SPEED, 0, 0, Scene.WAIT, 0, 0)
            .tank(30, 30, 0)
            .turns(1).state(0, Scene.HAS_BUMPED, 1).turns(1).state(0, Scene.HAS_BUMPED, 0);
    }

    public static void main(String[] args) {
        nearestByHalf();
        severalAtOneDistance();
        greaterOfBoth();
        leastAndGreatest();
        none();
        behindStepFour();
        theDead();
        deadInStepFour();
        toldForOneTurn();
        CHECKS.end();
    }
}
