/** Promise 8: bullet. */
public final class BulletTest {
    private static final int NO = TankArena.REFUSED;
    private static final Checks CHECKS = new Checks();

    private static void oneOfEach() {
        Scene scene = new Scene(CHECKS, "one").tank(10, 30, 1, Scene.FIRE, 2, 0).tank(50, 30, 6, Scene.FIRE, 3, 0)
            .turns(12).count(Scene.BULLETS, 0);
        CHECKS.due("none yet", scene.arena.bullet(0, 0), NO);
        scene.turns(1).bullet(0, 16, 36, 2, 1, 0).bullet(1, 50, 25, 3, 6, 1);
        CHECKS.due("index 2", scene.arena.bullet(2, 0), NO);
        int[] wrong = {Integer.MIN_VALUE, -1, 5, 6, Integer.MAX_VALUE};
        for (int value : wrong) {
            CHECKS.due("bullet(0, " + value + ")", scene.arena.bullet(0, value), NO);
            CHECKS.due("bullet(" + value + ", 0)", scene.arena.bullet(value, 0), NO);
        }
    }

    /** Bullets keep the order of their firing when one before them is gone. */
    private static void inTheOrderOfFiring() {
        new Scene(CHECKS, "order").tank(56, 10, 0, Scene.FIRE, 1, 0).tank(10, 20, 0, Scene.FIRE, 2, 0)
            .tank(10, 30, 0, Scene.FIRE, 3, 0)
            .turns(13).bullet(0, 63, 10, 1, 0, 0).bullet(1, 16, 20, 2, 0, 1).bullet(2, 15, 30, 3, 0, 2)
            .turns(1).count(Scene.BULLETS, 2).bullet(0, 22, 20, 2, 0, 1).bullet(1, 20, 30, 3, 0, 2)
            .turns(4).count(Scene.BULLETS, 3).bullet(0, 46, 20, 2, 0, 1).bullet(1, 40, 30, 3, 0, 2).bullet(2, 63, 10, 1, 0, 0)
            .turns(1).count(Scene.BULLETS, 3).bullet(0, 52, 20, 2, 0, 1).bullet(1, 45, 30, 3, 0, 2).bullet(2, 16, 20, 2, 0, 1)
            .turns(1).count(Scene.BULLETS, 4).bullet(0, 58, 20, 2, 0, 1).bullet(1, 50, 30, 3, 0, 2).bullet(2, 22, 20, 2, 0, 1)
            .bullet(3, 15, 30, 3, 0, 2);
    }

    /** All that four tanks can have in the air: the long way over the field, as fast as the guns cool. */
    private static void manyAtOnce() {
        Scene scene = new Scene(CHECKS, "many").tank(2, 10, 0, Scene.FIRE, 1, 0).tank(2, 20, 0, Scene.FIRE, 1, 0)
            .tank(2, 30, 0, Scene.FIRE, 1, 0).tank(2, 40, 0, Scene.FIRE, 1, 0).turns(18);
        scene.count(Scene.BULLETS, 8).count(Scene.SHOTS, 8);
        for (int k = 0; k < 4; k++) {
            scene.bullet(k, 2 + 6 * 7, 10 + 10 * k, 1, 0, k).bullet(4 + k, 2 + 7, 10 + 10 * k, 1, 0, k);
        }
    }

    private static void goneAtAHit() {
        Scene scene = new Scene(CHECKS, "hit").tank(10, 10, 0, Scene.FIRE, 1, 0).tank(14, 10, 0).turns(13).count(Scene.BULLETS, 0);
        CHECKS.due("gone", scene.arena.bullet(0, 0), NO);
    }

    private static void goneAtARestart() {
        Scene scene = new Scene(CHECKS, "restart").tank(10, 10, 0, Scene.FIRE, 1, 0).tank(50, 50, 0).turns(13).count(Scene.BULLETS, 1);
        scene.arena.restart();
        CHECKS.due("gone", scene.arena.bullet(0, 0), NO);
    }

    public static void main(String[] args) {
        oneOfEach();
        inTheOrderOfFiring();
        manyAtOnce();
        goneAtAHit();
        goneAtARestart();
        CHECKS.end();
    }
}
