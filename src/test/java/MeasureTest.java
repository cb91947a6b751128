/** Promise 6: measure. */
public final class MeasureTest {
    private static final Checks CHECKS = new Checks();

    private static void allOfOne() {
        Scene scene = new Scene(CHECKS, "all")
            .tank(10, 30, 0, Scene.SPEED, 3, 0, Scene.FIRE, 2, 0).tank(40, 30, 0).turns(13);
        // Speeds 1/2, 1 and then 1 1/2: 1.5 + 11 * 1.5 units gone; the bullet left from 26.5 and is there.
        long[] due = {28 * 8, 30 * 8, 12, 98 * 8, 10, 12, 0, 12 * 8};
        for (int what = 0; what < due.length; what++) {
            CHECKS.due("measure(0, " + what + ")", scene.arena.measure(0, what), due[what]);
        }
        scene.turns(1).measure(0, Scene.SCORE, 10).measure(0, Scene.ENERGY, 98 + 6).measure(1, Scene.ENERGY, 90);
    }

    private static void eighths() {
        Scene scene = new Scene(CHECKS, "eighths").tank(62, 30, 0, Scene.SPEED, 1, 0).tank(30, 30, 0).turns(1);
        CHECKS.due("a quarter less", scene.arena.measure(0, Scene.ENERGY), 798);
        CHECKS.due("heat", scene.arena.measure(0, Scene.HEAT), 22);
        CHECKS.due("wish", scene.arena.measure(0, Scene.WISH), 4);
    }

    private static void refused() {
        TankArena arena = new TankArena();
        arena.enter(10, 10, 0);
        arena.enter(20, 10, 0);
        int[] noTanks = {Integer.MIN_VALUE, -1, 2, 3, 4, Integer.MAX_VALUE};
        for (int tank : noTanks) {
            CHECKS.due("measure(" + tank + ", 0)", arena.measure(tank, 0), TankArena.REFUSED);
        }
        int[] nothing = {Integer.MIN_VALUE, -1, 8, 9, Integer.MAX_VALUE};
        for (int what : nothing) {
            CHECKS.due("measure(0, " + what + ")", arena.measure(0, what), TankArena.REFUSED);
        }
    }

    public static void main(String[] args) {
        allOfOne();
        eighths();
        refused();
        CHECKS.end();
    }
}
