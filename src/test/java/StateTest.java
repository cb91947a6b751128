/** Promise 7: state. */
public final class StateTest {
    private static final Checks CHECKS = new Checks();

    private static void allOfOne() {
        Scene scene = new Scene(CHECKS, "all")
            .tank(30, 2, 6, Scene.SPEED, 1, 0, Scene.TURN, 1, 0, Scene.GUN, -1, 0, Scene.RADAR, 1, 0, Scene.SET, 0, 77,
                Scene.SET, 1, 100, Scene.WAIT, 0, 0, Scene.JUMP, 7, 0)
            .tank(40, 2, 0).turns(1);
        int[] first = {7, 5, 7, 1, 0, 7, 77, 100, 4, 1, 0};
        for (int what = 0; what < first.length; what++) {
            scene.state(0, what, first[what]);
        }
        scene.turns(3).state(0, Scene.SKIPS, 3).state(0, Scene.COUNTER, 7).state(0, Scene.HAS_BUMPED, 0);
    }

    private static void hitAndSeen() {
        new Scene(CHECKS, "hit").tank(10, 10, 0, Scene.FIRE, 1, 0).tank(16, 10, 4)
            .turns(13).state(1, Scene.WAS_HIT, 1).state(0, Scene.WAS_HIT, 0).state(0, Scene.SIGHT, 1).state(1, Scene.SIGHT, 0)
            .state(1, Scene.HAS_BUMPED, 0).turns(1).state(1, Scene.WAS_HIT, 0);
    }

    private static void deadTank() {
        new Scene(CHECKS, "dead").tank(10, 10, 0, Scene.FIRE, 3, 0).tank(15, 10, 4, Scene.SET, 0, 4, Scene.WAIT, 0, 0)
            .tank(50, 50, 0).turns(55).state(1, Scene.ALIVE, 0).state(1, Scene.WAS_HIT, 1).state(1, Scene.COUNTER, 2)
            .turns(1).state(1, Scene.WAS_HIT, 0).state(1, Scene.COUNTER, 2).state(1, Scene.REGISTER_0, 4).state(0, Scene.ALIVE, 1);
    }

    private static void deadBumpIsToldOnce() {
        new Scene(CHECKS, "dead by a bump").tank(10, 10, 0, Scene.SPEED, 1, 0).tank(14, 10, 0).tank(50, 50, 0).tank(50, 40, 0)
            .turns(200).state(0, Scene.ALIVE, 0).state(0, Scene.HAS_BUMPED, 1)
            .turns(1).state(0, Scene.HAS_BUMPED, 0);
    }

    private static void refused() {
        TankArena arena = new TankArena();
        arena.enter(10, 10, 0);
        arena.enter(20, 10, 0);
        int[] noTanks = {Integer.MIN_VALUE, -1, 2, 3, 4, Integer.MAX_VALUE};
        for (int tank : noTanks) {
            CHECKS.due("state(" + tank + ", 0)", arena.state(tank, 0), TankArena.REFUSED);
        }
        int[] nothing = {Integer.MIN_VALUE, -1, 11, 12, Integer.MAX_VALUE};
        for (int what : nothing) {
            CHECKS.due("state(0, " + what + ")", arena.state(0, what), TankArena.REFUSED);
        }
    }

    public static void main(String[] args) {
        allOfOne();
        hitAndSeen();
        deadTank();
        deadBumpIsToldOnce();
        refused();
        CHECKS.end();
    }
}
