/** Refused calls answer REFUSED and change nothing: not what can be asked now, nor what comes of it. */
public final class RefusedTest {
    private static final int NO = TankArena.REFUSED;
    private static final Checks CHECKS = new Checks();

    private static Scene scene(String name) {
        return new Scene(CHECKS, name)
            .tank(10, 30, 0, Scene.FIRE, 3, 0, Scene.SPEED, 1, 0, Scene.WAIT, 0, 0)
            .tank(30, 30, 4, Scene.SPEED, 3, 0, Scene.TURN, 1, 0, Scene.FIRE, 1, 0);
    }

    private static void refusedBefore(TankArena arena) {
        CHECKS.due("enter touching", arena.enter(12, 30, 0), NO);
        CHECKS.due("enter out of range", arena.enter(63, 30, 0), NO);
        CHECKS.due("enter with a wrong heading", arena.enter(50, 50, 8), NO);
        CHECKS.due("instr of no tank", arena.instr(2, 0, 0, 0), NO);
        CHECKS.due("instr of no op", arena.instr(0, 13, 0, 0), NO);
        CHECKS.due("instr with a wrong a", arena.instr(0, Scene.SPEED, 9, 0), NO);
        CHECKS.due("instr with a wrong b", arena.instr(1, Scene.SET, 0, 101), NO);
    }

    private static void refusedLater(TankArena arena) {
        CHECKS.due("enter late", arena.enter(50, 50, 0), NO);
        CHECKS.due("instr late", arena.instr(0, Scene.SPEED, 8, 0), NO);
        CHECKS.due("measure", arena.measure(0, 8), NO);
        CHECKS.due("state", arena.state(0, 11), NO);
        CHECKS.due("bullet", arena.bullet(99, 0), NO);
        CHECKS.due("count", arena.count(6), NO);
    }

    public static void main(String[] args) {
        Scene disturbed = scene("disturbed");
        Scene quiet = scene("quiet");
        refusedBefore(disturbed.arena);
        CHECKS.due("before the first turn", disturbed.picture(), quiet.picture());
        disturbed.turns(20);
        quiet.turns(20);
        refusedLater(disturbed.arena);
        CHECKS.due("behind 20 turns", disturbed.picture(), quiet.picture());
        disturbed.turns(20);
        quiet.turns(20);
        CHECKS.due("behind 40 turns", disturbed.picture(), quiet.picture());
        disturbed.arena.restart();
        quiet.arena.restart();
        CHECKS.due("a next instruction", disturbed.arena.instr(0, 0, 0, 0), 4);
        CHECKS.due("a next tank", disturbed.arena.enter(50, 50, 0), 2);
        CHECKS.end();
    }
}
