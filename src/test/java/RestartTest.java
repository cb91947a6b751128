/** Promise 5: restart. */
public final class RestartTest {
    private static final Checks CHECKS = new Checks();

    private static Scene battle(String name) {
        return new Scene(CHECKS, name)
            .tank(10, 30, 0, Scene.FIRE, 3, 0, Scene.RADAR, 1, 0, Scene.SET, 0, 5, Scene.WAIT, 0, 0)
            .tank(30, 30, 4, Scene.SPEED, 3, 0, Scene.TURN, 1, 0, Scene.GUN, 1, 0, Scene.FIRE, 1, 0, Scene.WAIT, 0, 0)
            .tank(2, 2, 5, Scene.SPEED, 8, 0, Scene.SET, 1, 9)
            .tank(50, 50, 2, Scene.SPEED, 2, 0, Scene.JUMP, 0, 0);
    }

    private static void backToTheStart() {
        Scene scene = battle("battle");
        String start = scene.picture();
        scene.turns(17);
        String later = scene.picture();
        CHECKS.due("restart", scene.arena.restart(), 17);
        CHECKS.due("the start", scene.picture(), start);
        CHECKS.due("restart at the start", scene.arena.restart(), 0);
        scene.turns(17);
        CHECKS.due("the same again", scene.picture(), later);
    }

    private static void countsFromTheRestart() {
        Scene scene = battle("counts").turns(3);
        CHECKS.due("first", scene.arena.restart(), 3);
        scene.turns(5);
        CHECKS.due("second", scene.arena.restart(), 5);
        scene.count(Scene.TURNS, 0).count(Scene.SHOTS, 0).count(Scene.HITS, 0).count(Scene.BULLETS, 0).count(Scene.TANKS, 4);
    }

    private static void entersAgain() {
        Scene scene = new Scene(CHECKS, "enters").tank(10, 10, 0, Scene.SPEED, 8, 0).tank(30, 30, 0).turns(9);
        scene.arena.restart();
        CHECKS.due("where tank 0 started", scene.arena.enter(12, 10, 0), TankArena.REFUSED);
        scene.tank(30, 10, 0);
        CHECKS.due("its second instruction", scene.arena.instr(0, Scene.SPEED, 2, 0), 2);
        scene.turns(2).measure(0, Scene.WISH, 1).count(Scene.TANKS, 3);
        CHECKS.due("turns", scene.arena.restart(), 2);
        scene.count(Scene.TANKS, 3).place(2, 30, 10);
    }

    private static void theDeadAreBack() {
        Scene scene = new Scene(CHECKS, "dead").tank(10, 10, 0, Scene.FIRE, 3, 0).tank(15, 10, 2).turns(55);
        scene.state(1, Scene.ALIVE, 0);
        CHECKS.due("turns", scene.arena.restart(), 55);
        scene.state(1, Scene.ALIVE, 1).state(1, Scene.WAS_HIT, 0).measure(1, Scene.ENERGY, 100).measure(0, Scene.SCORE, 0)
            .count(Scene.LIVING, 2).turns(55).state(1, Scene.ALIVE, 0);
    }

    public static void main(String[] args) {
        backToTheStart();
        countsFromTheRestart();
        entersAgain();
        theDeadAreBack();
        CHECKS.end();
    }
}
