/** Promise 5, the edges: a restart of nothing, of no turn and of a fight that is over. */
public final class RestartEdgesTest {
    private static final Checks CHECKS = new Checks();

    private static void restarts(Scene scene, String why, int turns) {
        CHECKS.due("restart, " + why, scene.arena.restart(), turns);
    }

    private static void noTanks() {
        Scene scene = new Scene(CHECKS, "no tanks");
        String before = scene.picture();
        restarts(scene, "no tanks", 0);
        CHECKS.due("behind it", scene.picture(), before);
        scene.tank(10, 10, 0);
    }

    /** "how many turns were made since the start": none, one, none again; a refused turn is none. */
    private static void turnsMade() {
        Scene scene = new Scene(CHECKS, "turns made").tank(10, 10, 0, Scene.SPEED, 1, 0);
        restarts(scene, "one tank", 0);
        CHECKS.due("turn of one", scene.arena.turn(), TankArena.REFUSED);
        restarts(scene, "a refused turn", 0);
        scene.tank(30, 10, 0);
        restarts(scene, "no turn", 0);
        scene.turns(1);
        restarts(scene, "one turn", 1);
        restarts(scene, "at once again", 0);
        scene.turns(2).count(Scene.TURNS, 2);
        restarts(scene, "two turns", 2);
        scene.count(Scene.TURNS, 0);
    }

    /** The fight is over in turn 55, in which the bullet of tank 0 kills. */
    private static void fightOver() {
        Scene scene = new Scene(CHECKS, "over").tank(10, 10, 0, Scene.FIRE, 3, 0).tank(15, 10, 2);
        String before = scene.picture();
        scene.turns(55).count(Scene.LIVING, 1);
        CHECKS.due("turn", scene.arena.turn(), TankArena.REFUSED);
        restarts(scene, "one alive", 55);
        CHECKS.due("behind it", scene.picture(), before);
        CHECKS.due("a turn again", scene.arena.turn(), 2);
    }

    private static void noneAlive() {
        Scene scene = new Scene(CHECKS, "none").tank(10, 10, 0, Scene.SPEED, 1, 0).tank(14, 10, 0);
        String before = scene.picture();
        scene.turns(200).count(Scene.LIVING, 0);
        restarts(scene, "none alive", 200);
        CHECKS.due("behind it", scene.picture(), before);
        scene.turns(1).measure(0, Scene.ENERGY, 99.5).count(Scene.LIVING, 2);
    }

    /** "Everything is as it was": a disabled tank runs again, its registers, counter, skips and wish are 0. */
    private static void disabledRunsAgain() {
        Scene scene = new Scene(CHECKS, "disabled")
            .tank(10, 10, 0, Scene.SPEED, 6, 0, Scene.SET, 0, 9, Scene.SET, 1, 8, Scene.WAIT, 0, 0, Scene.JUMP, 4, 0)
            .tank(50, 50, 0);
        String before = scene.picture();
        scene.turns(4).state(0, Scene.SKIPS, 3).state(0, Scene.COUNTER, 4);
        String later = scene.picture();
        restarts(scene, "disabled", 4);
        CHECKS.due("behind it", scene.picture(), before);
        scene.turns(4);
        CHECKS.due("the same again", scene.picture(), later);
    }

    /** What happened in the turn before did not happen: no jump of BUMPED, HIT, SEEN or AIMED in the first turn. */
    private static void nothingHappenedBefore() {
        int[] program = {Scene.BUMPED, 5, 0, Scene.HIT, 5, 0, Scene.SEEN, 5, 0, Scene.AIMED, 5, 0, Scene.SET, 0, 1,
            Scene.SPEED, 1, 0, Scene.WAIT, 0, 0};
        Scene scene = new Scene(CHECKS, "nothing before").tank(20, 10, 0, program).tank(24, 10, 4, Scene.FIRE, 1, 0);
        scene.turns(13).state(0, Scene.HAS_BUMPED, 1).state(0, Scene.WAS_HIT, 1).state(0, Scene.SIGHT, 1);
        restarts(scene, "bumped, hit and seeing", 13);
        scene.state(0, Scene.HAS_BUMPED, 0).state(0, Scene.WAS_HIT, 0).state(0, Scene.SIGHT, 4).measure(0, Scene.DISTANCE, 0)
            .state(0, Scene.REGISTER_0, 0).turns(1).state(0, Scene.REGISTER_0, 1);
    }

    /** Bullets in the air are gone, and the next ones are the first again. */
    private static void bulletsAreGone() {
        Scene scene = new Scene(CHECKS, "bullets").tank(2, 10, 0, Scene.FIRE, 1, 0).tank(62, 50, 4, Scene.FIRE, 2, 0)
            .turns(19).count(Scene.BULLETS, 4);
        restarts(scene, "bullets in the air", 19);
        scene.count(Scene.BULLETS, 0).count(Scene.SHOTS, 0).turns(12).count(Scene.BULLETS, 0).count(Scene.SHOTS, 0)
            .turns(1).count(Scene.BULLETS, 2).bullet(0, 9, 10, 1, 0, 0).bullet(1, 56, 50, 2, 4, 1);
    }

    /** "tanks and programs entered": they stay, those of a restart before too. */
    private static void tanksAndProgramsStay() {
        Scene scene = new Scene(CHECKS, "stay").tank(10, 10, 0, Scene.SPEED, 2, 0).tank(30, 10, 0).turns(5);
        restarts(scene, "two tanks", 5);
        scene.tank(50, 10, 1, Scene.GUN, 1, 0, Scene.WAIT, 0, 0).turns(5);
        restarts(scene, "three tanks", 5);
        scene.count(Scene.TANKS, 3).place(0, 10, 10).place(2, 50, 10).state(2, Scene.GUN_AT, 1);
        CHECKS.due("a second of tank 0", scene.arena.instr(0, Scene.WAIT, 0, 0), 2);
        CHECKS.due("a first of tank 1", scene.arena.instr(1, Scene.WAIT, 0, 0), 1);
        CHECKS.due("a third of tank 2", scene.arena.instr(2, Scene.WAIT, 0, 0), 3);
        scene.turns(1).measure(0, Scene.WISH, 1).state(2, Scene.GUN_AT, 2);
    }

    public static void main(String[] args) {
        noTanks();
        turnsMade();
        fightOver();
        noneAlive();
        disabledRunsAgain();
        nothingHappenedBefore();
        bulletsAreGone();
        tanksAndProgramsStay();
        CHECKS.end();
    }
}
