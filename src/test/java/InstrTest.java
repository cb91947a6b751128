/** Promise 3: instr. */
public final class InstrTest {
    private static final int NO = TankArena.REFUSED;
    private static final int ANY = Integer.MIN_VALUE;
    private static final Checks CHECKS = new Checks();

    private static void first(int op, int a, int b, boolean allowed) {
        TankArena arena = new TankArena();
        arena.enter(10, 10, 0);
        CHECKS.due("instr(0, " + op + ", " + a + ", " + b + ")", arena.instr(0, op, a, b), allowed ? 1 : NO);
    }

    private static void rangeOfA(int op, int least, int most, int b) {
        for (int a = least - 2; a <= most + 2; a++) {
            first(op, a, b, a >= least && a <= most);
        }
        first(op, Integer.MIN_VALUE, b, false);
        first(op, Integer.MAX_VALUE, b, false);
    }

    private static void rangeOfB(int op, int a, int most) {
        for (int b = -2; b <= most + 2; b++) {
            first(op, a, b, b >= 0 && b <= most);
        }
        first(op, a, Integer.MIN_VALUE, false);
        first(op, a, Integer.MAX_VALUE, false);
    }

    private static void ranges() {
        first(Scene.WAIT, ANY, ANY, true);
        first(Scene.WAIT, Integer.MAX_VALUE, Integer.MAX_VALUE, true);
        rangeOfA(Scene.SPEED, 0, 8, ANY);
        rangeOfA(Scene.TURN, -1, 1, ANY);
        rangeOfA(Scene.GUN, -1, 1, ANY);
        rangeOfA(Scene.RADAR, -1, 1, ANY);
        rangeOfA(Scene.FIRE, 1, 3, ANY);
        for (int op = Scene.JUMP; op <= Scene.AIMED; op++) {
            rangeOfA(op, 0, 15, ANY);
        }
        rangeOfA(Scene.SET, 0, 1, 0);
        rangeOfB(Scene.SET, 1, 100);
        rangeOfA(Scene.LOOP, 0, 15, 1);
        rangeOfB(Scene.LOOP, 15, 1);
        int[] noOps = {Integer.MIN_VALUE, -1, 13, 14, Integer.MAX_VALUE};
        for (int op : noOps) {
            first(op, 0, 0, false);
            first(op, 1, 1, false);
        }
    }

    private static void tanks() {
        TankArena arena = new TankArena();
        CHECKS.due("no tank yet", arena.instr(0, 0, 0, 0), NO);
        arena.enter(10, 10, 0);
        arena.enter(20, 10, 0);
        CHECKS.due("tank -1", arena.instr(-1, 0, 0, 0), NO);
        CHECKS.due("tank 2", arena.instr(2, 0, 0, 0), NO);
        CHECKS.due("tank least", arena.instr(Integer.MIN_VALUE, 0, 0, 0), NO);
        CHECKS.due("tank most", arena.instr(Integer.MAX_VALUE, 0, 0, 0), NO);
        CHECKS.due("first of tank 1", arena.instr(1, 0, 0, 0), 1);
        CHECKS.due("first of tank 0", arena.instr(0, 0, 0, 0), 1);
        CHECKS.due("second of tank 1", arena.instr(1, 0, 0, 0), 2);
    }

    private static void sixteen() {
        TankArena arena = new TankArena();
        arena.enter(10, 10, 0);
        arena.enter(20, 10, 0);
        for (int size = 1; size <= 16; size++) {
            CHECKS.due("instruction " + size, arena.instr(0, 11, 0, size), size);
        }
        CHECKS.due("a 17th", arena.instr(0, 0, 0, 0), NO);
        CHECKS.due("of the other", arena.instr(1, 0, 0, 0), 1);
    }

    private static void refusedIsNotAdded() {
        Scene scene = new Scene(CHECKS, "refused").tank(10, 10, 0, Scene.SET, 0, 7).tank(20, 10, 0);
        CHECKS.due("wrong b", scene.arena.instr(0, Scene.SET, 0, 101), NO);
        CHECKS.due("next", scene.arena.instr(0, Scene.SET, 1, 9), 2);
        scene.turns(1).state(0, Scene.REGISTER_0, 7).state(0, Scene.REGISTER_1, 9);
    }

    private static void onlyBeforeTheFirstTurn() {
        Scene scene = new Scene(CHECKS, "late").tank(10, 10, 0).tank(20, 10, 0).turns(1);
        CHECKS.due("after a turn", scene.arena.instr(0, Scene.SPEED, 2, 0), NO);
        scene.turns(1).measure(0, Scene.WISH, 0);
        scene.arena.restart();
        CHECKS.due("after a restart", scene.arena.instr(0, Scene.SPEED, 2, 0), 1);
        scene.turns(1).measure(0, Scene.WISH, 1);
    }

    public static void main(String[] args) {
        ranges();
        tanks();
        sixteen();
        refusedIsNotAdded();
        onlyBeforeTheFirstTurn();
        CHECKS.end();
    }
}
