/** Runs of up to 512 calls, made by a fixed rule, answered by the program as by the model. */
public final class RandomRunsTest {
    private static final int RUNS = 4000;
    private static final int CALLS = 512;
    private static final int[] ODD = {Integer.MIN_VALUE, -1000000, -2, -1, 0, 1, 2, 3, 4, 5, 8, 9, 12, 13, 15, 16, 62, 63, 100, 101, Integer.MAX_VALUE};

    private final Checks checks;
    private final TankArena arena = new TankArena();
    private final ArenaModel model = new ArenaModel();
    private final int run;
    private long seed;
    private int calls;

    private RandomRunsTest(Checks checks, int run) {
        this.checks = checks;
        this.run = run;
        this.seed = 0x9E3779B97F4A7C15L * (run + 1);
    }

    private int below(int bound) {
        seed = seed * 6364136223846793005L + 1442695040888963407L;
        return (int) ((seed >>> 33) % bound);
    }

    private int odd() {
        return ODD[below(ODD.length)];
    }

    private void same(String call, long got, long want) {
        calls++;
        checks.due("run " + run + ", call " + calls + ": " + call, got, want);
    }

    private void enter(int x, int y, int heading) {
        same("enter(" + x + ", " + y + ", " + heading + ")", arena.enter(x, y, heading), model.enter(x, y, heading));
    }

    private void instr(int tank, int op, int a, int b) {
        same("instr(" + tank + ", " + op + ", " + a + ", " + b + ")", arena.instr(tank, op, a, b), model.instr(tank, op, a, b));
    }

    private void turn() {
        same("turn()", arena.turn(), model.turn());
    }

    private void restart() {
        same("restart()", arena.restart(), model.restart());
    }

    private void measure(int tank, int what) {
        same("measure(" + tank + ", " + what + ")", arena.measure(tank, what), model.measure(tank, what));
    }

    private void state(int tank, int what) {
        same("state(" + tank + ", " + what + ")", arena.state(tank, what), model.state(tank, what));
    }

    private void bullet(int k, int what) {
        same("bullet(" + k + ", " + what + ")", arena.bullet(k, what), model.bullet(k, what));
    }

    private void count(int what) {
        same("count(" + what + ")", arena.count(what), model.count(what));
    }

    private void go() {
        int kind = run % 5;
        enterTanks(kind);
        writePrograms(kind);
        int asked = 2 + below(12);
        while (calls < CALLS - 110) {
            int dice = below(40);
            if (dice < asked) {
                ask();
            } else if (dice == 39 && calls < CALLS - 210 && below(60) == 0) {
                restart();
                enterTanks(kind);
                writePrograms(kind);
            } else if (dice == 38 && below(20) == 0) {
                wrongCall();
            } else {
                turn();
            }
        }
        askAll();
        checks.due("run " + run + " keeps to 512 calls", calls <= CALLS ? 1 : 0, 1);
    }

    private void enterTanks(int kind) {
        int wanted = 1 + below(5);
        int x = 2 + below(61);
        int y = 2 + below(61);
        for (int i = 0; i < wanted; i++) {
            enter(x, y, below(8));
            boolean crowd = kind != 0 && below(4) > 0;
            x = crowd ? near(x) : 2 + below(61);
            y = crowd ? near(y) : 2 + below(61);
        }
    }

    private int near(int coordinate) {
        int[] steps = {-5, -4, -4, -2, 0, 0, 0, 2, 4, 4, 5};
        return Math.max(2, Math.min(62, coordinate + steps[below(steps.length)]));
    }

    private void writePrograms(int kind) {
        for (int tank = 0; tank < 4; tank++) {
            int size = below(6) == 0 ? 14 + below(4) : below(8);
            for (int i = 0; i < size; i++) {
                int op = kind == 1 ? fighting() : kind == 2 ? pushing() : kind == 3 ? mixed() : below(13);
                instr(tank, op, argument(op), below(2));
            }
            if (kind != 0 && below(5) > 0) {
                instr(tank, 0, odd(), odd());
                instr(tank, 6, 0, odd());
            }
        }
    }

    private int fighting() {
        int[] ops = {5, 5, 5, 5, 3, 4, 10, 7, 1, 2, 9};
        return ops[below(ops.length)];
    }

    private int pushing() {
        int[] ops = {1, 1, 1, 1, 1, 1, 2, 8, 0};
        return ops[below(ops.length)];
    }

    private int mixed() {
        int[] ops = {0, 0, 1, 1, 2, 3, 4, 5, 5, 7, 8, 9, 10, 11, 12};
        return ops[below(ops.length)];
    }

    private int argument(int op) {
        switch (op) {
            case 0: return odd();
            case 1: return below(9);
            case 2:
            case 3:
            case 4: return below(3) - 1;
            case 5: return 1 + below(3);
            case 11: return below(2);
            default: return below(8);
        }
    }

    private void ask() {
        switch (below(4)) {
            case 0: measure(below(4), below(8)); break;
            case 1: state(below(4), below(11)); break;
            case 2: bullet(below(4), below(5)); break;
            default: count(below(6)); break;
        }
    }

    private void wrongCall() {
        switch (below(6)) {
            case 0: enter(odd(), odd(), odd()); break;
            case 1: instr(odd(), odd(), odd(), odd()); break;
            case 2: measure(odd(), odd()); break;
            case 3: state(odd(), odd()); break;
            case 4: bullet(odd(), odd()); break;
            default: count(odd()); break;
        }
    }

    private void askAll() {
        for (int tank = 0; tank < 4; tank++) {
            for (int what = 0; what < 8; what++) {
                measure(tank, what);
            }
            for (int what = 0; what < 11; what++) {
                state(tank, what);
            }
        }
        for (int what = 0; what < 6; what++) {
            count(what);
        }
        for (int what = 0; what < 5; what++) {
            bullet(0, what);
        }
    }

    public static void main(String[] args) {
        Checks checks = new Checks();
        for (int run = 0; run < RUNS; run++) {
            new RandomRunsTest(checks, run).go();
        }
        for (ArenaModel.Rare rare : ArenaModel.Rare.values()) {
            int met = ArenaModel.MET[rare.ordinal()];
            System.out.println(rare + " " + met);
            checks.due(rare + " came about", met > 0 ? 1 : 0, 1);
        }
        checks.end();
    }
}
