/** The terms, the edges: the field, the directions, the sectors, the tanks and their touch. */
public final class TermsEdgesTest {
    private static final Checks CHECKS = new Checks();
    private static final int[] STEP_X = {1, 1, 0, -1, -1, -1, 0, 1};
    private static final int[] STEP_Y = {0, 1, 1, 1, 0, -1, -1, -1};

    /** "An object is used for at most 512 calls": the last of them is answered as the first; 99 shots leave an energy of 1. */
    private static void lastCall() {
        TankArena arena = new TankArena();
        CHECKS.due("call 1", arena.enter(30, 30, 0), 0);
        CHECKS.due("call 2", arena.enter(4, 60, 0), 1);
        CHECKS.due("call 3", arena.instr(0, Scene.FIRE, 1, 0), 1);
        for (int call = 4; call <= 510; call++) {
            CHECKS.due("call " + call, arena.turn(), 2);
        }
        CHECKS.due("call 511", arena.measure(0, Scene.ENERGY), 8);
        CHECKS.due("call 512", arena.count(Scene.SHOTS), 99);
    }

    /** The border and the least step beyond it: a bullet at 64 or 0 is there, half a unit further it is gone. */
    private static void atTheBorder(int direction, int power) {
        int far = 8 - power;
        int dx = STEP_X[direction];
        int dy = STEP_Y[direction];
        int x = dx > 0 ? 64 - far : dx < 0 ? far : 20;
        int y = dy > 0 ? 64 - far : dy < 0 ? far : 20;
        String name = "direction " + direction + ", power " + power;
        new Scene(CHECKS, name).tank(x, y, direction, Scene.FIRE, power, 0).tank(32, 32, 0)
            .turns(13).count(Scene.BULLETS, 1).bullet(0, x + far * dx, y + far * dy, power, direction, 0)
            .turns(1).count(Scene.BULLETS, 0).count(Scene.HITS, 0);
        new Scene(CHECKS, name + ", half a unit on").tank(x, y, direction, Scene.halfAStepThenFire(power)).tank(32, 32, 0)
            .turns(12).place(0, x + 0.5 * dx, y + 0.5 * dy).count(Scene.SHOTS, 0)
            .turns(1).count(Scene.SHOTS, 1).count(Scene.BULLETS, 0).count(Scene.HITS, 0);
    }

    /** "The field is 64 units by 64; x and y go from 0 to 64." */
    private static void field() {
        for (int direction = 0; direction < 8; direction++) {
            for (int power = 1; power <= 3; power++) {
                atTheBorder(direction, power);
            }
        }
    }

    /** "turning by 1 leads from 7 to 0, by -1 from 0 to 7", and by one from each to its neighbour. */
    private static void turning() {
        for (int from = 0; from < 8; from++) {
            int left = from == 7 ? 0 : from + 1;
            int right = from == 0 ? 7 : from - 1;
            turnedOnce(from, 1, left);
            turnedOnce(from, -1, right);
            turnedOnce(from, 0, from);
        }
    }

    private static void turnedOnce(int from, int by, int to) {
        String name = "from " + from + " by " + by;
        new Scene(CHECKS, "tank " + name).tank(30, 30, from, Scene.TURN, by, 0).tank(60, 4, 0)
            .turns(1).state(0, Scene.HEADING, to).state(0, Scene.GUN_AT, from).state(0, Scene.RADAR_AT, from);
        new Scene(CHECKS, "gun " + name).tank(30, 30, from, Scene.GUN, by, 0).tank(60, 4, 0)
            .turns(1).state(0, Scene.HEADING, from).state(0, Scene.GUN_AT, to).state(0, Scene.RADAR_AT, from);
        new Scene(CHECKS, "radar " + name).tank(30, 30, from, Scene.RADAR, by, 0).tank(60, 4, 0)
            .turns(1).state(0, Scene.HEADING, from).state(0, Scene.GUN_AT, from).state(0, Scene.RADAR_AT, to);
    }

    /** Behind the wrap-around the tank goes by the direction that it then has. */
    private static void goesBehindTheWrap() {
        new Scene(CHECKS, "7 to 0").tank(30, 30, 7, Scene.TURN, 1, 0, Scene.SPEED, 1, 0).tank(60, 4, 0).turns(1)
            .place(0, 30.5, 30);
        new Scene(CHECKS, "0 to 7").tank(30, 30, 0, Scene.TURN, -1, 0, Scene.SPEED, 1, 0).tank(60, 4, 0).turns(1)
            .place(0, 30.5, 29.5);
    }

    /** A whole round, three times, in both senses. */
    private static void turningOnAndOn() {
        Scene left = new Scene(CHECKS, "round").tank(30, 30, 5, Scene.TURN, 1, 0, Scene.GUN, -1, 0, Scene.RADAR, 1, 0)
            .tank(60, 4, 0);
        for (int turn = 1; turn <= 24; turn++) {
            left.turns(1).state(0, Scene.HEADING, (5 + turn) % 8).state(0, Scene.GUN_AT, (29 - turn) % 8)
                .state(0, Scene.RADAR_AT, (5 + turn) % 8);
        }
    }

    /** Tank 1 stands dx, dy off tank 0, in halves; only a radar of the sector sees it, only a gun of it is aimed. */
    private static void sector(double dx, double dy, int want) {
        for (int radar = 0; radar < 8; radar++) {
            Scene scene = new Scene(CHECKS, "radar " + radar + " to " + dx + ", " + dy);
            offBy(scene.tank(32, 32, radar), dx, dy).turns(1).place(1, 32 + dx, 32 + dy)
                .state(0, Scene.SIGHT, radar == want ? 1 : 4);
        }
        for (int gun = -1; gun <= 1; gun++) {
            Scene scene = new Scene(CHECKS, "gun " + gun + " off " + dx + ", " + dy);
            offBy(scene.tank(32, 32, want, Scene.GUN, gun, 0, Scene.WAIT, 0, 0, Scene.AIMED, 4, 0, Scene.WAIT, 0, 0,
                Scene.SET, 0, 9, Scene.WAIT, 0, 0), dx, dy)
                .turns(2).state(0, Scene.REGISTER_0, gun == 0 ? 9 : 0).state(0, Scene.SIGHT, 1);
        }
    }

    /** Enters a tank that goes half a unit in the first turn where its place is no whole one. */
    private static Scene offBy(Scene scene, double dx, double dy) {
        int x = (int) Math.floor(dx);
        int y = (int) Math.floor(dy);
        boolean halfX = dx != x;
        boolean halfY = dy != y;
        int heading = halfX && halfY ? 1 : halfY ? 2 : 0;
        return scene.tank(32 + x, 32 + y, heading, halfX || halfY ? Scene.halfAStep() : new int[0]);
    }

    /** "if twice the size of dy is not above the size of dx: direction 0 or 4 by the sign of dx". */
    private static void flatSectors() {
        for (int sign = -1; sign <= 1; sign += 2) {
            sector(10, 5 * sign, 0);
            sector(-10, 5 * sign, 4);
            sector(11, 5.5 * sign, 0);
            sector(-11, 5.5 * sign, 4);
            sector(10.5, 5 * sign, 0);
            sector(-10.5, 5 * sign, 4);
            sector(10, 0.5 * sign, 0);
            sector(-10, 0.5 * sign, 4);
            sector(10 * sign, 0, sign > 0 ? 0 : 4);
        }
    }

    /** "else if twice the size of dx is not above that of dy: 2 or 6 by the sign of dy". */
    private static void steepSectors() {
        for (int sign = -1; sign <= 1; sign += 2) {
            sector(5 * sign, 10, 2);
            sector(5 * sign, -10, 6);
            sector(5.5 * sign, 11, 2);
            sector(5.5 * sign, -11, 6);
            sector(5 * sign, 10.5, 2);
            sector(5 * sign, -10.5, 6);
            sector(0.5 * sign, 10, 2);
            sector(0.5 * sign, -10, 6);
            sector(0, 10 * sign, sign > 0 ? 2 : 6);
        }
    }

    /** "else 1, 3, 5 or 7 by both signs": from half a unit beside the flat ones to half a unit beside the steep ones. */
    private static void slantSectors() {
        int[] signsX = {1, -1, -1, 1};
        int[] signsY = {1, 1, -1, -1};
        for (int i = 0; i < 4; i++) {
            int want = 2 * i + 1;
            sector(10 * signsX[i], 5.5 * signsY[i], want);
            sector(10.5 * signsX[i], 5.5 * signsY[i], want);
            sector(11 * signsX[i], 6 * signsY[i], want);
            sector(10 * signsX[i], 10 * signsY[i], want);
            sector(5.5 * signsX[i], 10 * signsY[i], want);
            sector(5.5 * signsX[i], 10.5 * signsY[i], want);
            sector(6 * signsX[i], 11 * signsY[i], want);
        }
    }

    /** "all three the heading at first .. is ALIVE, at first": each number in each heading. */
    private static void atFirst() {
        for (int heading = 0; heading < 8; heading++) {
            Scene scene = new Scene(CHECKS, "at first");
            for (int tank = 0; tank < 4; tank++) {
                int[] states = {heading, heading, heading, 1, 0, 0, 0, 0, 4, 0, 0};
                double[] measures = {4 + 10 * tank, 30 - tank, 0, 100, 3, 0, 0, 0};
                scene.tank(4 + 10 * tank, 30 - tank, heading);
                for (int what = 0; what < states.length; what++) {
                    scene.state(tank, what, states[what]);
                }
                for (int what = 0; what < measures.length; what++) {
                    scene.measure(tank, what, measures[what]);
                }
            }
        }
    }

    /** Tank 0 at 30, 30 goes half a unit in the first turn if it is to be nearer; tank 1 goes half a unit in the second. */
    private static void touch(String name, int x, int y, int heading, boolean nearer, int targetHeading, boolean bumps) {
        Scene scene = new Scene(CHECKS, name + (nearer ? ", half a unit nearer" : ""));
        scene.tank(30, 30, targetHeading, nearer ? Scene.halfAStep() : new int[0])
            .tank(x, y, heading, Scene.WAIT, 0, 0, Scene.SPEED, 1, 0, Scene.WAIT, 0, 0, Scene.JUMP, 2, 0)
            .turns(1).place(1, x, y)
            .turns(1).state(1, Scene.HAS_BUMPED, bumps ? 1 : 0).measure(1, Scene.ENERGY, bumps ? 99.5 : 100)
            .measure(0, Scene.ENERGY, bumps ? 99.5 : 100);
    }

    /** "Two tanks TOUCH if both the sizes of dx and dy are below 4": 4 in front of it, 3 1/2 when it has moved. */
    private static void touchInFront() {
        for (int heading = 0; heading < 8; heading++) {
            int dx = STEP_X[heading];
            int dy = STEP_Y[heading];
            touch("4 1/2 to 4, heading " + heading, 30 - 5 * dx, 30 - 5 * dy, heading, true, (heading + 4) % 8, false);
            touch("4 to 3 1/2, heading " + heading, 30 - 4 * dx, 30 - 4 * dy, heading, false, heading, true);
        }
    }

    /** Past a tank at the side: with 4 between the lines it goes by, with 3 1/2 it touches. */
    private static void touchAtTheSide() {
        touch("below, to the right", 26, 26, 0, false, 6, false);
        touch("below, to the right", 26, 26, 0, true, 6, true);
        touch("above, to the left", 34, 34, 4, false, 2, false);
        touch("above, to the left", 34, 34, 4, true, 2, true);
        touch("at the left, upwards", 26, 26, 2, false, 4, false);
        touch("at the left, upwards", 26, 26, 2, true, 4, true);
        touch("at the right, downwards", 34, 34, 6, false, 0, false);
        touch("at the right, downwards", 34, 34, 6, true, 0, true);
    }

    public static void main(String[] args) {
        lastCall();
        field();
        turning();
        goesBehindTheWrap();
        turningOnAndOn();
        flatSectors();
        steepSectors();
        slantSectors();
        atFirst();
        touchInFront();
        touchAtTheSide();
        CHECKS.end();
    }
}
