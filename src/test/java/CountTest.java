/** Promise 9: count. */
public final class CountTest {
    private static final Checks CHECKS = new Checks();

    private static void counts(Scene scene, int... due) {
        for (int what = 0; what < due.length; what++) {
            scene.count(what, due[what]);
        }
    }

    public static void main(String[] args) {
        Scene scene = new Scene(CHECKS, "counts");
        counts(scene, 0, 0, 0, 0, 0, 0);
        scene.tank(10, 10, 0, Scene.FIRE, 3, 0).tank(15, 10, 0).tank(10, 30, 0, Scene.FIRE, 1, 0);
        counts(scene, 0, 3, 3, 0, 0, 0);
        scene.turns(12);
        counts(scene, 12, 3, 3, 0, 0, 0);
        scene.turns(1);
        counts(scene, 13, 3, 3, 1, 2, 1);
        // Tank 2 fires every 5th turn, in 18, 23, .. 53: 9 shots; tank 0 in 13, 20, .. 55: 7.
        // The bullet of turn 48 has left the field with 10 + 8 * 7, that of 53 is there.
        scene.turns(42);
        counts(scene, 55, 3, 2, 1, 16, 7);
        int[] wrong = {Integer.MIN_VALUE, -1, 6, 7, Integer.MAX_VALUE};
        for (int what : wrong) {
            scene.count(what, TankArena.REFUSED);
        }
        scene.arena.restart();
        counts(scene, 0, 3, 3, 0, 0, 0);
        CHECKS.end();
    }
}
