/** An arena that a test sets up in a few words, with the numbers of the document named. */
final class Scene {
    static final int WAIT = 0, SPEED = 1, TURN = 2, GUN = 3, RADAR = 4, FIRE = 5, JUMP = 6, SEEN = 7;
    static final int BUMPED = 8, HIT = 9, AIMED = 10, SET = 11, LOOP = 12;

    static final int X = 0, Y = 1, VELOCITY = 2, ENERGY = 3, HEAT = 4, WISH = 5, SCORE = 6, DISTANCE = 7;

    static final int HEADING = 0, GUN_AT = 1, RADAR_AT = 2, ALIVE = 3, SKIPS = 4, COUNTER = 5;
    static final int REGISTER_0 = 6, REGISTER_1 = 7, SIGHT = 8, HAS_BUMPED = 9, WAS_HIT = 10;

    static final int TURNS = 0, TANKS = 1, LIVING = 2, BULLETS = 3, SHOTS = 4, HITS = 5;

    final TankArena arena = new TankArena();
    private final Checks checks;
    private final String name;

    Scene(Checks checks, String name) {
        this.checks = checks;
        this.name = name;
    }

    /** Enters a tank whose program is the given instructions, each as op, a, b. */
    Scene tank(int x, int y, int heading, int... program) {
        int number = arena.count(TANKS);
        checks.due(name + ": enter", arena.enter(x, y, heading), number);
        for (int i = 0; i < program.length; i += 3) {
            int size = arena.instr(number, program[i], program[i + 1], program[i + 2]);
            checks.due(name + ": instr", size, i / 3 + 1);
        }
        return this;
    }

    /** A program that goes half a unit in the first turn and stands from then on. */
    static int[] halfAStep() {
        return new int[] {SPEED, 1, 0, WAIT, 0, 0, SPEED, 0, 0, WAIT, 0, 0, JUMP, 3, 0};
    }

    /** The same, with a FIRE in every turn from the second on. */
    static int[] halfAStepThenFire(int power) {
        return new int[] {SPEED, 1, 0, WAIT, 0, 0, SPEED, 0, 0, FIRE, power, 0, WAIT, 0, 0, JUMP, 3, 0};
    }

    /** Makes turns, none of which may be refused. */
    Scene turns(int times) {
        int alive = arena.count(LIVING);
        for (int i = 0; i < times && alive != TankArena.REFUSED; i++) {
            alive = arena.turn();
        }
        checks.due(name + ": turn", alive, arena.count(LIVING));
        return this;
    }

    Scene measure(int tank, int what, double units) {
        checks.due(name + ": measure(" + tank + ", " + what + ")", arena.measure(tank, what), (long) (units * 8));
        return this;
    }

    Scene state(int tank, int what, int want) {
        checks.due(name + ": state(" + tank + ", " + what + ")", arena.state(tank, what), want);
        return this;
    }

    Scene bullet(int k, double x, double y, int power, int direction, int owner) {
        int[] want = {(int) (x * 8), (int) (y * 8), power, direction, owner};
        for (int what = 0; what < want.length; what++) {
            checks.due(name + ": bullet(" + k + ", " + what + ")", arena.bullet(k, what), want[what]);
        }
        return this;
    }

    Scene count(int what, int want) {
        checks.due(name + ": count(" + what + ")", arena.count(what), want);
        return this;
    }

    Scene place(int tank, double x, double y) {
        return measure(tank, X, x).measure(tank, Y, y);
    }

    /** All that can be asked of the arena. */
    String picture() {
        StringBuilder text = new StringBuilder();
        for (int what = 0; what <= 5; what++) {
            text.append(arena.count(what)).append(' ');
        }
        for (int tank = 0; tank < arena.count(TANKS); tank++) {
            text.append("| ");
            for (int what = 0; what <= 7; what++) {
                text.append(arena.measure(tank, what)).append(' ');
            }
            for (int what = 0; what <= 10; what++) {
                text.append(arena.state(tank, what)).append(' ');
            }
        }
        for (int k = 0; k < arena.count(BULLETS); k++) {
            text.append("| ");
            for (int what = 0; what <= 4; what++) {
                text.append(arena.bullet(k, what)).append(' ');
            }
        }
        return text.toString();
    }
}
