/** Promise 4: deaths and scores. */
public final class ScoreTest {
    private static final Checks CHECKS = new Checks();

    /** Seven hits of 16: the whole of the last one counts, and 50 for every other tank alive. */
    private static void shotDead() {
        new Scene(CHECKS, "shot dead").tank(10, 10, 0, Scene.FIRE, 3, 0).tank(15, 10, 2).tank(50, 50, 0).tank(50, 40, 0)
            .turns(54).measure(0, Scene.SCORE, 6 * 16).measure(2, Scene.SCORE, 0)
            .turns(1).measure(0, Scene.SCORE, 7 * 16 + 50).measure(1, Scene.SCORE, 0).measure(2, Scene.SCORE, 50)
            .measure(3, Scene.SCORE, 50).measure(0, Scene.ENERGY, 100 + 7 * 6);
    }

    /** When both die in one bump the other one dies first, so the one that bumped scores alone. */
    private static void bothDieInOneBump() {
        new Scene(CHECKS, "tank 0 bumps").tank(10, 10, 0, Scene.SPEED, 1, 0).tank(14, 10, 0).tank(50, 50, 0)
            .turns(200).state(0, Scene.ALIVE, 0).state(1, Scene.ALIVE, 0).measure(0, Scene.SCORE, 50).measure(1, Scene.SCORE, 0)
            .measure(2, Scene.SCORE, 100).state(0, Scene.HAS_BUMPED, 1).state(1, Scene.HAS_BUMPED, 0);
        new Scene(CHECKS, "tank 1 bumps").tank(10, 10, 0).tank(14, 10, 4, Scene.SPEED, 1, 0).tank(50, 50, 0)
            .turns(200).measure(0, Scene.SCORE, 0).measure(1, Scene.SCORE, 50).measure(2, Scene.SCORE, 100);
    }

    /** The wall takes the last energy, yet the other tank is bumped before the death. */
    private static void onlyOneDies() {
        new Scene(CHECKS, "the one that bumps").tank(10, 62, 1, Scene.SPEED, 1, 0).tank(14, 62, 0).tank(50, 10, 0)
            .turns(133).measure(0, Scene.ENERGY, 0.25).measure(1, Scene.ENERGY, 33.5)
            .turns(1).measure(0, Scene.ENERGY, -0.5).state(0, Scene.ALIVE, 0).measure(1, Scene.ENERGY, 33)
            .measure(1, Scene.SCORE, 50).measure(2, Scene.SCORE, 50).measure(0, Scene.SCORE, 0);
    }

    /** By rising numbers: in turn 100 it is tank 1 that makes the last bump, and tank 0 the other one. */
    private static void eachBumpsTheOther() {
        new Scene(CHECKS, "each bumps the other").tank(10, 10, 0, Scene.SPEED, 1, 0).tank(14, 10, 4, Scene.SPEED, 1, 0)
            .turns(99).measure(0, Scene.ENERGY, 1).measure(1, Scene.ENERGY, 1)
            .turns(1).measure(0, Scene.ENERGY, 0).measure(1, Scene.ENERGY, 0).measure(1, Scene.SCORE, 50)
            .measure(0, Scene.SCORE, 0).count(Scene.LIVING, 0);
    }

    /** In turn 200 tank 1 is dead when its part of step 4 would come, so its gun turned 199 times. */
    private static void deadBeforeItsMove() {
        new Scene(CHECKS, "dead before its move").tank(10, 10, 0, Scene.SPEED, 1, 0).tank(14, 10, 0, Scene.GUN, 1, 0)
            .turns(199).state(1, Scene.GUN_AT, 199 % 8).turns(1).state(1, Scene.ALIVE, 0).state(1, Scene.GUN_AT, 199 % 8);
    }

    /** A tank that is dead already scores nothing for a later death. */
    private static void deadGetNothingForDeaths() {
        new Scene(CHECKS, "dead before").tank(10, 10, 0, Scene.FIRE, 3, 0).tank(15, 10, 2).tank(30, 10, 2).tank(50, 50, 0)
            .turns(55).state(1, Scene.ALIVE, 0).measure(2, Scene.SCORE, 50)
            .turns(60).state(2, Scene.ALIVE, 0).measure(1, Scene.SCORE, 0).measure(2, Scene.SCORE, 50)
            .measure(3, Scene.SCORE, 100).measure(0, Scene.SCORE, 14 * 16 + 100);
    }

    public static void main(String[] args) {
        shotDead();
        bothDieInOneBump();
        onlyOneDies();
        eachBumpsTheOther();
        deadBeforeItsMove();
        deadGetNothingForDeaths();
        CHECKS.end();
    }
}
