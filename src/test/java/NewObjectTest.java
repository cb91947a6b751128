/** Promise 1: no tanks, turn 0. */
public final class NewObjectTest {
    public static void main(String[] args) {
        Checks checks = new Checks();
        Scene scene = new Scene(checks, "new");
        for (int what = Scene.TURNS; what <= Scene.HITS; what++) {
            scene.count(what, 0);
        }
        TankArena arena = scene.arena;
        checks.due("no tank to measure", arena.measure(0, 0), TankArena.REFUSED);
        checks.due("no tank to tell of", arena.state(0, 0), TankArena.REFUSED);
        checks.due("no bullet", arena.bullet(0, 0), TankArena.REFUSED);
        checks.due("no tank to program", arena.instr(0, 0, 0, 0), TankArena.REFUSED);
        checks.due("a turn without tanks", arena.turn(), TankArena.REFUSED);
        checks.due("restart at once", arena.restart(), 0);

        TankArena other = new TankArena();
        checks.due("a tank in one arena", other.enter(10, 10, 0), 0);
        checks.due("is not in another", arena.count(Scene.TANKS), 0);
        checks.end();
    }
}
