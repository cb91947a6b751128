/** Promise 2: enter. */
public final class EnterTest {
    private static final int NO = TankArena.REFUSED;
    private static final Checks CHECKS = new Checks();

    private static void first(int x, int y, int heading, int want) {
        CHECKS.due("first enter(" + x + ", " + y + ", " + heading + ")", new TankArena().enter(x, y, heading), want);
    }

    private static void behind(int x, int y, int want) {
        TankArena arena = new TankArena();
        arena.enter(30, 30, 0);
        CHECKS.due("enter(" + x + ", " + y + ", 0) beside 30, 30", arena.enter(x, y, 0), want);
    }

    private static void ranges() {
        first(2, 2, 0, 0);
        first(62, 62, 7, 0);
        int[] wrong = {Integer.MIN_VALUE, -1, 0, 1, 63, 64, Integer.MAX_VALUE};
        for (int value : wrong) {
            first(value, 30, 0, NO);
            first(30, value, 0, NO);
        }
        for (int heading = 0; heading < 8; heading++) {
            first(30, 30, heading, 0);
        }
        first(30, 30, -1, NO);
        first(30, 30, 8, NO);
        first(30, 30, Integer.MIN_VALUE, NO);
        first(30, 30, Integer.MAX_VALUE, NO);
    }

    private static void touching() {
        behind(30, 30, NO);
        behind(33, 33, NO);
        behind(27, 33, NO);
        behind(27, 27, NO);
        behind(34, 30, 1);
        behind(26, 30, 1);
        behind(30, 34, 1);
        behind(30, 26, 1);
        behind(34, 33, 1);
        behind(33, 34, 1);
    }

    private static void numbersAndFull() {
        Scene scene = new Scene(CHECKS, "four").tank(10, 10, 0).tank(20, 10, 1).tank(30, 10, 2).tank(40, 10, 3);
        CHECKS.due("a fifth", scene.arena.enter(50, 10, 0), NO);
        scene.count(Scene.TANKS, 4).count(Scene.LIVING, 4);
    }

    private static void refusedLeavesRoom() {
        Scene scene = new Scene(CHECKS, "refused").tank(10, 10, 0);
        CHECKS.due("touching", scene.arena.enter(12, 12, 3), NO);
        scene.count(Scene.TANKS, 1);
        CHECKS.due("its measure", scene.arena.measure(1, 0), NO);
        scene.tank(20, 20, 5).place(1, 20, 20).state(1, Scene.HEADING, 5);
    }

    private static void onlyBeforeTheFirstTurn() {
        Scene scene = new Scene(CHECKS, "late").tank(10, 10, 0).tank(20, 10, 0).turns(1);
        CHECKS.due("after a turn", scene.arena.enter(40, 40, 0), NO);
        scene.arena.restart();
        scene.tank(40, 40, 0).turns(1).count(Scene.TANKS, 3);
    }

    private static void atFirst() {
        Scene scene = new Scene(CHECKS, "at first").tank(10, 20, 6);
        double[] measures = {10, 20, 0, 100, 3, 0, 0, 0};
        for (int what = 0; what < measures.length; what++) {
            scene.measure(0, what, measures[what]);
        }
        int[] states = {6, 6, 6, 1, 0, 0, 0, 0, 4, 0, 0};
        for (int what = 0; what < states.length; what++) {
            scene.state(0, what, states[what]);
        }
    }

    public static void main(String[] args) {
        ranges();
        touching();
        numbersAndFull();
        refusedLeavesRoom();
        onlyBeforeTheFirstTurn();
        atFirst();
        CHECKS.end();
    }
}
