/** Promise 4, step 3: the bullets. */
public final class BulletFlightTest {
    private static final int[] STEP_X = {1, 1, 0, -1, -1, -1, 0, 1};
    private static final int[] STEP_Y = {0, 1, 1, 1, 0, -1, -1, -1};
    private static final Checks CHECKS = new Checks();

    private static void directionsAndPaces() {
        for (int direction = 0; direction < 8; direction++) {
            for (int power = 1; power <= 3; power++) {
                int far = 8 - power;
                int dx = STEP_X[direction];
                int dy = STEP_Y[direction];
                new Scene(CHECKS, "direction " + direction).tank(32, 32, direction, Scene.FIRE, power, 0)
                    .tank(dx == 0 ? 2 : 32, dx == 0 ? 32 : 2 + (dy < 0 ? 60 : 0), 0)
                    .turns(13).bullet(0, 32 + dx * far, 32 + dy * far, power, direction, 0)
                    .turns(1).bullet(0, 32 + 2 * dx * far, 32 + 2 * dy * far, power, direction, 0);
            }
        }
    }

    private static void fieldsEdge(String name, int x, int y, int heading, double endX, double endY) {
        new Scene(CHECKS, name).tank(x, y, heading, Scene.FIRE, 1, 0).tank(32, 32, 0)
            .turns(13).count(Scene.BULLETS, 1).bullet(0, endX, endY, 1, heading, 0)
            .turns(1).count(Scene.BULLETS, 0).count(Scene.SHOTS, 1).count(Scene.HITS, 0);
    }

    private static void gone(String name, int x, int y, int heading) {
        new Scene(CHECKS, name).tank(x, y, heading, Scene.FIRE, 1, 0).tank(32, 32, 0)
            .turns(13).count(Scene.SHOTS, 1).count(Scene.BULLETS, 0);
    }

    private static void edges() {
        fieldsEdge("right edge", 57, 10, 0, 64, 10);
        fieldsEdge("left edge", 7, 10, 4, 0, 10);
        fieldsEdge("upper edge", 10, 57, 2, 10, 64);
        fieldsEdge("lower edge", 10, 7, 6, 10, 0);
        fieldsEdge("corner", 57, 57, 1, 64, 64);
        fieldsEdge("other corner", 7, 7, 5, 0, 0);
        gone("beyond the right", 58, 10, 0);
        gone("beyond the left", 6, 10, 4);
        gone("beyond the top", 10, 58, 2);
        gone("beyond the bottom", 10, 6, 6);
    }

    /** The target stands dy off the bullet's line. */
    private static void reach(int dy, boolean hit) {
        new Scene(CHECKS, "reach " + dy).tank(10, 30, 0, Scene.FIRE, 1, 0).tank(16, 30 + dy, 0)
            .turns(13).state(1, Scene.WAS_HIT, hit ? 1 : 0).count(Scene.BULLETS, hit ? 0 : 1).count(Scene.HITS, hit ? 1 : 0)
            .state(0, Scene.WAS_HIT, 0);
    }

    private static void reaches() {
        for (int dy = -2; dy <= 2; dy++) {
            reach(dy, true);
        }
        reach(3, false);
        reach(-3, false);
        // 7 units bring it to 17: within 2 of 19 but not of 20.
        new Scene(CHECKS, "just there").tank(10, 30, 0, Scene.FIRE, 1, 0).tank(19, 30, 0).turns(13).count(Scene.HITS, 1);
        new Scene(CHECKS, "not yet").tank(10, 30, 0, Scene.FIRE, 1, 0).tank(20, 30, 0)
            .turns(13).count(Scene.HITS, 0).turns(1).count(Scene.HITS, 1);
    }

    /** Both stand within 2 of the bullet at once; then the one behind stands nearer to the line. */
    private static void leastNumber() {
        new Scene(CHECKS, "two in reach").tank(10, 30, 0, Scene.FIRE, 1, 0).tank(18, 28, 0).tank(18, 32, 0)
            .turns(13).state(1, Scene.WAS_HIT, 1).state(2, Scene.WAS_HIT, 0);
        new Scene(CHECKS, "two in reach, other order").tank(18, 32, 0).tank(18, 28, 0).tank(10, 30, 0, Scene.FIRE, 1, 0)
            .turns(13).state(0, Scene.WAS_HIT, 1).state(1, Scene.WAS_HIT, 0);
        new Scene(CHECKS, "the nearer is reached first").tank(10, 30, 0, Scene.FIRE, 1, 0).tank(20, 30, 0).tank(15, 32, 0)
            .turns(14).state(1, Scene.WAS_HIT, 0).measure(1, Scene.ENERGY, 100).measure(2, Scene.ENERGY, 96);
    }

    private static void whatAHitTakesAndGives() {
        double[] taken = {0, 4, 10, 16};
        for (int power = 1; power <= 3; power++) {
            new Scene(CHECKS, "hit of power " + power).tank(10, 30, 0, Scene.FIRE, power, 0).tank(15, 30, 0)
                .turns(13).measure(1, Scene.ENERGY, 100 - taken[power]).measure(0, Scene.ENERGY, 100 - power + 3 * power)
                .measure(0, Scene.SCORE, taken[power]).measure(1, Scene.SCORE, 0)
                .state(1, Scene.WAS_HIT, 1).state(0, Scene.WAS_HIT, 0)
                .turns(1).state(1, Scene.WAS_HIT, 0);
        }
    }

    /** Tank 0 and tank 1 hit tank 2, whose seventh loss of 16 kills: the bullet behind flies on. */
    private static void deadDoNotStopBullets() {
        new Scene(CHECKS, "through the dead")
            .tank(10, 30, 0, Scene.FIRE, 3, 0).tank(20, 30, 4, Scene.FIRE, 3, 0).tank(15, 30, 2)
            .turns(13 + 2 * 7).measure(2, Scene.ENERGY, 100 - 6 * 16).state(2, Scene.ALIVE, 1).count(Scene.HITS, 6)
            .turns(7).state(2, Scene.ALIVE, 0).measure(2, Scene.ENERGY, -12).count(Scene.HITS, 7).count(Scene.SHOTS, 8)
            .count(Scene.BULLETS, 1).bullet(0, 15, 30, 3, 4, 1)
            .turns(1).count(Scene.HITS, 8).state(0, Scene.WAS_HIT, 1).state(2, Scene.WAS_HIT, 0);
    }

    /**
     * Tanks 0 and 1 hit each other with 16 for 13 hits at a net loss of 10 each seventh turn. In the turn of
     * the tenth exchange tank 1 has 10 - 3 - 16 and dies by the bullet of tank 0, whose own loss comes behind.
     */
    private static void deadTanksBulletsFlyOn() {
        new Scene(CHECKS, "a dead tank's bullet")
            .tank(10, 30, 0, Scene.FIRE, 3, 0).tank(14, 30, 4, Scene.FIRE, 3, 0).tank(50, 50, 0)
            .turns(13 + 8 * 7).measure(0, Scene.ENERGY, 10).measure(1, Scene.ENERGY, 10).measure(1, Scene.SCORE, 9 * 16)
            .turns(7).state(1, Scene.ALIVE, 0).measure(1, Scene.ENERGY, -9).state(0, Scene.ALIVE, 0)
            .measure(0, Scene.ENERGY, 10 - 3 + 9 - 16).measure(1, Scene.SCORE, 160).measure(0, Scene.SCORE, 160 + 50)
            .measure(2, Scene.SCORE, 100).count(Scene.HITS, 20).state(0, Scene.WAS_HIT, 1).state(1, Scene.WAS_HIT, 1)
            .count(Scene.LIVING, 1);
    }

    public static void main(String[] args) {
        directionsAndPaces();
        edges();
        reaches();
        leastNumber();
        whatAHitTakesAndGives();
        deadDoNotStopBullets();
        deadTanksBulletsFlyOn();
        CHECKS.end();
    }
}
