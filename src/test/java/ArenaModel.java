import java.util.ArrayList;
import java.util.Arrays;
import java.util.List;

/**
 * The document told a second time, in whole units as doubles and without regard to room or rules:
 * RandomRunsTest holds the program against it.
 */
final class ArenaModel {
    static final int REFUSED = -1000000;
    private static final int[][] DIRECTIONS = {{1, 0}, {1, 1}, {0, 1}, {-1, 1}, {-1, 0}, {-1, -1}, {0, -1}, {1, -1}};

    /** How often what is rare came about, so that the test can tell that its runs meet it. */
    enum Rare { BULLET_DEATH, WALL_DEATH, BUMP_DEATH, BOTH_DIE, DEAD_SCORES, SKIP, WALL_AND_TANK, TIE_SEEN, TWO_STRUCK, TWO_TOUCHED, TOO_WEAK }

    static final int[] MET = new int[Rare.values().length];

    static final class Robot {
        int number;
        double startX, startY;
        int startHeading;
        List<int[]> code = new ArrayList<>();
        double x, y, v, wish, energy, heat, score, range;
        int heading, gun, radar, skips, pc, sees;
        int[] reg;
        boolean alive, bumped, hit;
        int askTurn, askGun, askRadar, askFire;

        void begin() {
            x = startX;
            y = startY;
            heading = gun = radar = startHeading;
            v = wish = score = range = 0;
            energy = 100;
            heat = 3;
            skips = pc = 0;
            sees = 4;
            reg = new int[2];
            alive = true;
            bumped = hit = false;
        }
    }

    static final class Shell {
        double x, y;
        int p, d;
        Robot by;
    }

    private final List<Robot> robots = new ArrayList<>();
    private List<Shell> shells = new ArrayList<>();
    private int turns, shots, hits;

    int enter(int x, int y, int heading) {
        boolean ok = x >= 2 && x <= 62 && y >= 2 && y <= 62 && heading >= 0 && heading < 8 && turns == 0 && robots.size() < 4;
        for (Robot r : robots) {
            ok = ok && !(Math.abs((double) x - r.x) < 4 && Math.abs((double) y - r.y) < 4);
        }
        if (!ok) {
            return REFUSED;
        }
        Robot r = new Robot();
        r.number = robots.size();
        r.startX = x;
        r.startY = y;
        r.startHeading = heading;
        r.begin();
        robots.add(r);
        return r.number;
    }

    int instr(int tank, int op, int a, int b) {
        int[] least = {0, 0, -1, -1, -1, 1, 0, 0, 0, 0, 0, 0, 0};
        int[] most = {0, 8, 1, 1, 1, 3, 15, 15, 15, 15, 15, 1, 15};
        if (tank < 0 || tank >= robots.size() || turns != 0 || op < 0 || op > 12) {
            return REFUSED;
        }
        boolean ok = op == 0 || a >= least[op] && a <= most[op];
        ok = ok && (op != 11 || b >= 0 && b <= 100) && (op != 12 || b == 0 || b == 1);
        List<int[]> code = robots.get(tank).code;
        if (!ok || code.size() == 16) {
            return REFUSED;
        }
        code.add(new int[] {op, a, b});
        return code.size();
    }

    int restart() {
        int answer = turns;
        turns = shots = hits = 0;
        shells.clear();
        for (Robot r : robots) {
            r.begin();
        }
        return answer;
    }

    int turn() {
        if (alive().size() < 2) {
            return REFUSED;
        }
        turns++;
        for (Robot r : robots) {
            r.askTurn = r.askGun = r.askRadar = r.askFire = 0;
        }
        for (Robot r : alive()) {
            if (r.skips < 3) {
                think(r);
            }
        }
        for (Robot r : robots) {
            r.bumped = r.hit = false;
        }
        for (Robot r : alive()) {
            shoot(r);
        }
        List<Shell> left = new ArrayList<>();
        for (Shell s : shells) {
            if (flies(s)) {
                left.add(s);
            }
        }
        shells = left;
        for (Robot r : robots) {
            if (r.alive) {
                move(r);
            }
        }
        for (Robot r : robots) {
            look(r);
        }
        return alive().size();
    }

    private List<Robot> alive() {
        List<Robot> found = new ArrayList<>();
        for (Robot r : robots) {
            if (r.alive) {
                found.add(r);
            }
        }
        return found;
    }

    private void think(Robot r) {
        double wish = r.wish;
        int done = 0;
        boolean over = false;
        while (!over && done < 10) {
            if (r.pc >= r.code.size()) {
                r.pc = 0;
                over = true;
            } else {
                int[] i = r.code.get(r.pc++);
                done++;
                over = i[0] == 0;
                int a = i[1];
                if (i[0] == 1) r.wish = a / 2.0;
                if (i[0] == 2) r.askTurn = a;
                if (i[0] == 3) r.askGun = a;
                if (i[0] == 4) r.askRadar = a;
                if (i[0] == 5) r.askFire = a;
                if (i[0] == 6) r.pc = a;
                if (i[0] == 7 && r.sees < 4) r.pc = a;
                if (i[0] == 8 && r.bumped) r.pc = a;
                if (i[0] == 9 && r.hit) r.pc = a;
                if (i[0] == 10 && r.sees < 4 && sector(r, robots.get(r.sees)) == r.gun) r.pc = a;
                if (i[0] == 11) r.reg[a] = i[2];
                if (i[0] == 12 && --r.reg[i[2]] > 0) r.pc = a;
            }
        }
        if (!over) {
            MET[Rare.SKIP.ordinal()]++;
            r.skips++;
            r.wish = wish;
            r.askTurn = r.askGun = r.askRadar = r.askFire = 0;
        }
    }

    private void shoot(Robot r) {
        if (r.askFire > 0 && r.heat == 0 && r.energy <= r.askFire) {
            MET[Rare.TOO_WEAK.ordinal()]++;
        }
        if (r.askFire > 0 && r.heat == 0 && r.energy > r.askFire) {
            shots++;
            r.energy -= r.askFire;
            r.heat = 1 + r.askFire / 4.0;
            Shell s = new Shell();
            s.x = r.x;
            s.y = r.y;
            s.p = r.askFire;
            s.d = r.gun;
            s.by = r;
            shells.add(s);
        }
    }

    private boolean flies(Shell s) {
        for (int unit = 1; unit <= 8 - s.p; unit++) {
            s.x += DIRECTIONS[s.d][0];
            s.y += DIRECTIONS[s.d][1];
            if (s.x < 0 || s.x > 64 || s.y < 0 || s.y > 64) {
                return false;
            }
            List<Robot> near = new ArrayList<>();
            for (Robot r : alive()) {
                if (r != s.by && Math.abs(r.x - s.x) <= 2 && Math.abs(r.y - s.y) <= 2) {
                    near.add(r);
                }
            }
            if (near.size() > 1) {
                MET[Rare.TWO_STRUCK.ordinal()]++;
            }
            if (!near.isEmpty()) {
                wound(near.get(0), s);
                return false;
            }
        }
        return true;
    }

    private void wound(Robot r, Shell s) {
        int loss = s.p == 1 ? 4 : s.p == 2 ? 10 : 16;
        hits++;
        r.hit = true;
        r.energy -= loss;
        s.by.score += loss;
        if (s.by.alive) {
            s.by.energy += 3 * s.p;
        } else {
            MET[Rare.DEAD_SCORES.ordinal()]++;
        }
        if (r.energy <= 0) {
            MET[Rare.BULLET_DEATH.ordinal()]++;
            die(r);
        }
    }

    private void die(Robot dead) {
        dead.alive = false;
        for (Robot r : alive()) {
            r.score += 50;
        }
    }

    private void move(Robot r) {
        double wasX = r.x, wasY = r.y;
        if (r.v <= 2) {
            r.heading = (r.heading + 8 + r.askTurn) % 8;
        }
        r.gun = (r.gun + 8 + r.askGun) % 8;
        r.radar = (r.radar + 8 + r.askRadar) % 8;
        double wish = r.skips >= 3 ? 0 : r.wish;
        if (wish > r.v) {
            r.v += 0.5;
        } else if (wish < r.v) {
            r.v = r.v - 1 < wish ? wish : r.v - 1;
        }
        r.x += DIRECTIONS[r.heading][0] * r.v;
        r.y += DIRECTIONS[r.heading][1] * r.v;
        boolean wall = r.x < 2 || r.x > 62 || r.y < 2 || r.y > 62;
        if (wall) {
            r.x = r.x < 2 ? 2 : r.x > 62 ? 62 : r.x;
            r.y = r.y < 2 ? 2 : r.y > 62 ? 62 : r.y;
            r.energy -= r.v / 2;
        }
        List<Robot> touched = new ArrayList<>();
        for (Robot o : alive()) {
            if (o != r && Math.abs(o.x - r.x) < 4 && Math.abs(o.y - r.y) < 4) {
                touched.add(o);
            }
        }
        if (!touched.isEmpty()) {
            r.x = wasX;
            r.y = wasY;
            r.energy -= 0.5;
            touched.get(0).energy -= 0.5;
        }
        r.bumped = wall || !touched.isEmpty();
        if (r.bumped) {
            r.v = 0;
        }
        noteBump(r, wall, touched);
        if (!touched.isEmpty() && touched.get(0).energy <= 0) {
            die(touched.get(0));
        }
        if (r.energy <= 0) {
            die(r);
        }
        r.heat = r.heat < 0.25 ? 0 : r.heat - 0.25;
    }

    private void noteBump(Robot r, boolean wall, List<Robot> touched) {
        boolean otherDies = !touched.isEmpty() && touched.get(0).energy <= 0;
        if (touched.size() > 1) MET[Rare.TWO_TOUCHED.ordinal()]++;
        if (wall && !touched.isEmpty()) MET[Rare.WALL_AND_TANK.ordinal()]++;
        if (wall && touched.isEmpty() && r.energy <= 0) MET[Rare.WALL_DEATH.ordinal()]++;
        if (!touched.isEmpty() && (otherDies || r.energy <= 0)) MET[Rare.BUMP_DEATH.ordinal()]++;
        if (otherDies && r.energy <= 0) MET[Rare.BOTH_DIE.ordinal()]++;
    }

    private void look(Robot r) {
        r.sees = 4;
        r.range = 0;
        if (!r.alive) {
            return;
        }
        for (Robot o : alive()) {
            double d = Math.max(Math.abs(o.x - r.x), Math.abs(o.y - r.y));
            if (o == r || sector(r, o) != r.radar) {
                continue;
            }
            if (r.sees < 4 && d == r.range) {
                MET[Rare.TIE_SEEN.ordinal()]++;
            }
            if (r.sees == 4 || d < r.range) {
                r.sees = o.number;
                r.range = d;
            }
        }
    }

    private static int sector(Robot from, Robot to) {
        double dx = to.x - from.x, dy = to.y - from.y;
        double ax = Math.abs(dx), ay = Math.abs(dy);
        int sx = 2 * ay <= ax || 2 * ax > ay ? (int) Math.signum(dx) : 0;
        int sy = 2 * ay <= ax ? 0 : (int) Math.signum(dy);
        for (int d = 0; d < 8; d++) {
            if (Arrays.equals(DIRECTIONS[d], new int[] {sx, sy})) {
                return d;
            }
        }
        return -1;
    }

    long measure(int tank, int what) {
        if (tank < 0 || tank >= robots.size() || what < 0 || what > 7) {
            return REFUSED;
        }
        Robot r = robots.get(tank);
        double[] all = {r.x, r.y, r.v, r.energy, r.heat, r.wish, r.score, r.range};
        return (long) (all[what] * 8);
    }

    int state(int tank, int what) {
        if (tank < 0 || tank >= robots.size() || what < 0 || what > 10) {
            return REFUSED;
        }
        Robot r = robots.get(tank);
        int[] all = {r.heading, r.gun, r.radar, r.alive ? 1 : 0, r.skips, r.pc, r.reg[0], r.reg[1], r.sees, r.bumped ? 1 : 0, r.hit ? 1 : 0};
        return all[what];
    }

    int bullet(int k, int what) {
        if (k < 0 || k >= shells.size() || what < 0 || what > 4) {
            return REFUSED;
        }
        Shell s = shells.get(k);
        int[] all = {(int) (s.x * 8), (int) (s.y * 8), s.p, s.d, s.by.number};
        return all[what];
    }

    int count(int what) {
        int[] all = {turns, robots.size(), alive().size(), shells.size(), shots, hits};
        return what < 0 || what > 5 ? REFUSED : all[what];
    }
}
