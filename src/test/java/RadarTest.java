/** Promise 4, step 5, and the sectors of the terms. */
public final class RadarTest {
    private static final Checks CHECKS = new Checks();

    /** Only a radar of the one sector sees the tank at the difference. */
    private static void sector(int dx, int dy, int want) {
        for (int radar = 0; radar < 8; radar++) {
            Scene scene = new Scene(CHECKS, "from " + radar + " to " + dx + ", " + dy);
            scene.tank(32, 32, radar).tank(32 + dx, 32 + dy, 0).turns(1).state(0, Scene.SIGHT, radar == want ? 1 : 4)
                .measure(0, Scene.DISTANCE, radar == want ? Math.max(Math.abs(dx), Math.abs(dy)) : 0);
        }
    }

    private static void sectors() {
        sector(10, 0, 0);
        sector(10, 5, 0);
        sector(10, -5, 0);
        sector(10, 6, 1);
        sector(10, 10, 1);
        sector(6, 10, 1);
        sector(5, 10, 2);
        sector(0, 10, 2);
        sector(-5, 10, 2);
        sector(-6, 10, 3);
        sector(-10, 6, 3);
        sector(-10, 5, 4);
        sector(-10, 0, 4);
        sector(-10, -5, 4);
        sector(-10, -6, 5);
        sector(-6, -10, 5);
        sector(-5, -10, 6);
        sector(0, -10, 6);
        sector(5, -10, 6);
        sector(6, -10, 7);
        sector(10, -6, 7);
    }

    private static void nearest() {
        new Scene(CHECKS, "nearest").tank(10, 30, 0).tank(40, 30, 0).tank(30, 30, 0).tank(20, 45, 0)
            .turns(1).state(0, Scene.SIGHT, 2).measure(0, Scene.DISTANCE, 20).state(1, Scene.SIGHT, 4).state(3, Scene.SIGHT, 4);
        new Scene(CHECKS, "the greater size").tank(10, 10, 1).tank(30, 22, 0).tank(22, 29, 0)
            .turns(1).state(0, Scene.SIGHT, 2).measure(0, Scene.DISTANCE, 19);
        new Scene(CHECKS, "least of several").tank(10, 10, 1).tank(30, 22, 0).tank(22, 30, 0)
            .turns(1).state(0, Scene.SIGHT, 1).measure(0, Scene.DISTANCE, 20);
        new Scene(CHECKS, "not itself").tank(10, 10, 0).tank(10, 50, 0).turns(1).state(0, Scene.SIGHT, 4).measure(0, Scene.DISTANCE, 0);
    }

    /** The radar looks behind all moves and by its new direction. */
    private static void behindTheMoves() {
        new Scene(CHECKS, "turned").tank(10, 10, 7, Scene.RADAR, 1, 0).tank(30, 10, 0, Scene.SPEED, 1, 0)
            .turns(1).state(0, Scene.SIGHT, 1).measure(0, Scene.DISTANCE, 20.5)
            .turns(1).state(0, Scene.SIGHT, 4).measure(0, Scene.DISTANCE, 0);
        new Scene(CHECKS, "not by the heading").tank(10, 10, 0, Scene.TURN, 1, 0, Scene.GUN, 1, 0).tank(30, 10, 0)
            .turns(3).state(0, Scene.SIGHT, 1);
    }

    /** Tank 1 sees tank 0 until it dies in turn 55; tank 2 sees tank 1 until then and the one behind it from then on. */
    private static void theDead() {
        new Scene(CHECKS, "dead").tank(10, 10, 0, Scene.FIRE, 3, 0).tank(15, 10, 4).tank(40, 10, 4)
            .turns(54).state(1, Scene.SIGHT, 0).measure(1, Scene.DISTANCE, 5).state(2, Scene.SIGHT, 1).measure(2, Scene.DISTANCE, 25)
            .turns(1).state(1, Scene.ALIVE, 0).state(1, Scene.SIGHT, 4).measure(1, Scene.DISTANCE, 0)
            .state(2, Scene.SIGHT, 0).measure(2, Scene.DISTANCE, 30).state(0, Scene.SIGHT, 2).state(1, Scene.WAS_HIT, 1)
            .turns(1).state(1, Scene.SIGHT, 4).state(1, Scene.WAS_HIT, 0);
    }

    public static void main(String[] args) {
        sectors();
        nearest();
        behindTheMoves();
        theDead();
        CHECKS.end();
    }
}
