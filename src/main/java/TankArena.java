/**
 * An arena for tanks that are driven by small programs. Places, speeds, energies, heats and scores
 * are held in eighths of a unit, so that all arithmetic on them is exact.
 */
public final class TankArena {
    public static final int REFUSED = -1000000;

    private static final int UNIT = 8;
    private static final int HALF = 4;
    private static final int QUARTER = 2;

    private static final int FIELD_END = 64 * UNIT;
    private static final int TANK_LOW = 2;
    private static final int TANK_HIGH = 62;
    private static final int TOUCH_REACH = 4 * UNIT;
    private static final int HIT_REACH = 2 * UNIT;

    private static final int TANKS = 4;
    private static final int NO_TANK = 4;
    private static final int DIRECTIONS = 8;
    private static final int[] STEP_X = {1, 1, 0, -1, -1, -1, 0, 1};
    private static final int[] STEP_Y = {0, 1, 1, 1, 0, -1, -1, -1};

    private static final int FIRST_ENERGY = 100 * UNIT;
    private static final int FIRST_HEAT = 3 * UNIT;
    private static final int TURNING_SPEED = 2 * UNIT;
    private static final int BULLET_PACE = 8;
    private static final int DEATH_SCORE = 50 * UNIT;
    private static final int BUDGET = 10;
    private static final int SKIPS_TO_DISABLE = 3;

    // A gun cools for at least 5 turns and a bullet leaves the field within 13, so a tank never has
    // more than 3 bullets in the air.
    private static final int MOST_BULLETS = 16;

    private static final int WAIT = 0;
    private static final int SPEED = 1;
    private static final int TURN = 2;
    private static final int GUN = 3;
    private static final int RADAR = 4;
    private static final int FIRE = 5;
    private static final int JUMP = 6;
    private static final int SEEN = 7;
    private static final int BUMPED = 8;
    private static final int HIT = 9;
    private static final int AIMED = 10;
    private static final int SET = 11;
    private static final int LOOP = 12;

    private final Tank[] tanks;
    private final Bullet[] bullets;
    private int entered;
    private int turns;
    private int flying;
    private int shots;
    private int hits;

    public TankArena() {
        tanks = new Tank[TANKS];
        for (int i = 0; i < TANKS; i++) {
            tanks[i] = new Tank();
        }
        bullets = new Bullet[MOST_BULLETS];
        for (int i = 0; i < MOST_BULLETS; i++) {
            bullets[i] = new Bullet();
        }
    }

    public int enter(int x, int y, int heading) {
        if (turns > 0 || entered >= TANKS || !within(heading, 0, DIRECTIONS - 1)) {
            return REFUSED;
        }
        if (!within(x, TANK_LOW, TANK_HIGH) || !within(y, TANK_LOW, TANK_HIGH)) {
            return REFUSED;
        }
        if (leastTouched(entered, x * UNIT, y * UNIT) != NO_TANK) {
            return REFUSED;
        }
        tanks[entered].standAt(x * UNIT, y * UNIT, heading);
        entered++;
        return entered - 1;
    }

    public int instr(int tank, int op, int a, int b) {
        if (!isTank(tank) || turns > 0 || !Program.allows(op, a, b)) {
            return REFUSED;
        }
        Program program = tanks[tank].program;
        if (program.isFull()) {
            return REFUSED;
        }
        program.add(op, a, b);
        return program.size;
    }

    public int turn() {
        if (countAlive() < 2) {
            return REFUSED;
        }
        turns++;
        runPrograms();
        forgetLastTurn();
        fireGuns();
        flyBullets();
        driveTanks();
        sweepRadars();
        return countAlive();
    }

    public int restart() {
        int made = turns;
        for (int i = 0; i < entered; i++) {
            tanks[i].startAnew();
        }
        turns = 0;
        flying = 0;
        shots = 0;
        hits = 0;
        return made;
    }

    public long measure(int tank, int what) {
        return isTank(tank) ? tanks[tank].measured(what) : REFUSED;
    }

    public int state(int tank, int what) {
        return isTank(tank) ? tanks[tank].told(what) : REFUSED;
    }

    public int bullet(int k, int what) {
        return within(k, 0, flying - 1) ? bullets[k].told(what) : REFUSED;
    }

    public int count(int what) {
        switch (what) {
            case 0: return turns;
            case 1: return entered;
            case 2: return countAlive();
            case 3: return flying;
            case 4: return shots;
            case 5: return hits;
            default: return REFUSED;
        }
    }

    private static boolean within(int value, int least, int most) {
        return value >= least && value <= most;
    }

    private static int sector(Tank from, Tank to) {
        int dx = to.x - from.x;
        int dy = to.y - from.y;
        int wide = Math.abs(dx);
        int high = Math.abs(dy);
        if (2 * high <= wide) {
            return dx > 0 ? 0 : 4;
        }
        if (2 * wide <= high) {
            return dy > 0 ? 2 : 6;
        }
        if (dx > 0) {
            return dy > 0 ? 1 : 7;
        }
        return dy > 0 ? 3 : 5;
    }

    private static int turned(int direction, int by) {
        return Math.floorMod(direction + by, DIRECTIONS);
    }

    private boolean isTank(int number) {
        return within(number, 0, entered - 1);
    }

    private int countAlive() {
        int alive = 0;
        for (int i = 0; i < entered; i++) {
            if (tanks[i].alive) {
                alive++;
            }
        }
        return alive;
    }

    // Step 1: the programs.

    private void runPrograms() {
        for (int i = 0; i < entered; i++) {
            Tank tank = tanks[i];
            tank.orders.clear();
            if (tank.alive && !tank.isDisabled()) {
                runProgram(tank);
            }
        }
    }

    private void runProgram(Tank tank) {
        int wishBefore = tank.wish;
        if (spendsBudget(tank)) {
            tank.processor.skips++;
            tank.orders.clear();
            tank.wish = wishBefore;
        }
    }

    /** Runs the tank's program; true if the whole budget went without a WAIT. */
    private boolean spendsBudget(Tank tank) {
        Program program = tank.program;
        Processor processor = tank.processor;
        for (int done = 0; done < BUDGET; done++) {
            int at = processor.counter;
            if (at >= program.size) {
                processor.counter = 0;
                return false;
            }
            int op = program.ops[at];
            int a = program.as[at];
            int b = program.bs[at];
            obey(tank, op, a, b);
            processor.counter = jumps(tank, op, b) ? a : at + 1;
            if (op == WAIT) {
                return false;
            }
        }
        return true;
    }

    private static void obey(Tank tank, int op, int a, int b) {
        switch (op) {
            case SPEED: tank.wish = a * HALF; break;
            case TURN: tank.orders.heading = a; break;
            case GUN: tank.orders.gun = a; break;
            case RADAR: tank.orders.radar = a; break;
            case FIRE: tank.orders.power = a; break;
            case SET: tank.processor.registers[a] = b; break;
            case LOOP: tank.processor.registers[b]--; break;
            default: break;
        }
    }

    /** Asked behind obey, so that a LOOP has counted already. */
    private boolean jumps(Tank tank, int op, int b) {
        switch (op) {
            case JUMP: return true;
            case SEEN: return tank.report.seesTank();
            case BUMPED: return tank.report.bumped;
            case HIT: return tank.report.hit;
            case AIMED: return isAimed(tank);
            case LOOP: return tank.processor.registers[b] > 0;
            default: return false;
        }
    }

    private boolean isAimed(Tank tank) {
        return tank.report.seesTank() && sector(tank, tanks[tank.report.seen]) == tank.gun;
    }

    /** The programs were the last to ask; a dead tank's report is told for one turn alone too. */
    private void forgetLastTurn() {
        for (int i = 0; i < entered; i++) {
            tanks[i].report.clear();
        }
    }

    // Step 2: the guns.

    private void fireGuns() {
        for (int i = 0; i < entered; i++) {
            if (tanks[i].alive && tanks[i].canFire() && flying < MOST_BULLETS) {
                fire(i);
            }
        }
    }

    private void fire(int number) {
        Tank tank = tanks[number];
        int power = tank.orders.power;
        tank.energy -= power * UNIT;
        tank.heat = UNIT + power * QUARTER;
        bullets[flying].leave(tank, number);
        flying++;
        shots++;
    }

    // Step 3: the bullets.

    private void flyBullets() {
        int kept = 0;
        for (int i = 0; i < flying; i++) {
            Bullet bullet = bullets[i];
            if (staysThere(bullet)) {
                // The objects change places, so that a spent one can be fired again.
                bullets[i] = bullets[kept];
                bullets[kept] = bullet;
                kept++;
            }
        }
        flying = kept;
    }

    private boolean staysThere(Bullet bullet) {
        for (int gone = 0; gone < BULLET_PACE - bullet.power; gone++) {
            bullet.goOn();
            if (!bullet.isInField()) {
                return false;
            }
            int struck = leastStruck(bullet);
            if (struck != NO_TANK) {
                strike(bullet, struck);
                return false;
            }
        }
        return true;
    }

    private int leastStruck(Bullet bullet) {
        for (int i = 0; i < entered; i++) {
            boolean near = tanks[i].distanceTo(bullet.x, bullet.y) <= HIT_REACH;
            if (near && i != bullet.owner && tanks[i].alive) {
                return i;
            }
        }
        return NO_TANK;
    }

    private void strike(Bullet bullet, int number) {
        Tank target = tanks[number];
        Tank owner = tanks[bullet.owner];
        int taken = bullet.damage();
        target.energy -= taken;
        target.report.hit = true;
        owner.score += taken;
        hits++;
        if (owner.alive) {
            owner.energy += 3 * bullet.power * UNIT;
        }
        dieIfSpent(number);
    }

    private void dieIfSpent(int number) {
        if (tanks[number].energy > 0) {
            return;
        }
        tanks[number].alive = false;
        for (int i = 0; i < entered; i++) {
            if (tanks[i].alive) {
                tanks[i].score += DEATH_SCORE;
            }
        }
    }

    // Step 4: the tanks.

    private void driveTanks() {
        for (int i = 0; i < entered; i++) {
            if (tanks[i].alive) {
                drive(i);
            }
        }
    }

    private void drive(int number) {
        Tank tank = tanks[number];
        int oldX = tank.x;
        int oldY = tank.y;
        tank.obeyTurns();
        tank.changeSpeed();
        tank.goOn();
        int other = leastTouched(number, tank.x, tank.y);
        if (other != NO_TANK) {
            tank.x = oldX;
            tank.y = oldY;
            tank.report.bumped = true;
            tank.energy -= HALF;
            tanks[other].energy -= HALF;
        }
        if (tank.report.bumped) {
            tank.speed = 0;
        }
        // The other one dies first: the tank that ran into it still scores for that.
        if (other != NO_TANK) {
            dieIfSpent(other);
        }
        dieIfSpent(number);
        tank.cool();
    }

    /** The least tank alive that the one with this number touches if it stands at x, y. */
    private int leastTouched(int number, int x, int y) {
        for (int i = 0; i < entered; i++) {
            if (i != number && tanks[i].alive && tanks[i].distanceTo(x, y) < TOUCH_REACH) {
                return i;
            }
        }
        return NO_TANK;
    }

    // Step 5: the radars.

    private void sweepRadars() {
        for (int i = 0; i < entered; i++) {
            if (tanks[i].alive) {
                look(i);
            }
        }
    }

    private void look(int number) {
        Tank tank = tanks[number];
        for (int i = 0; i < entered; i++) {
            if (i != number && tanks[i].alive && sector(tank, tanks[i]) == tank.radar) {
                tank.report.noteSight(i, tank.distanceTo(tanks[i].x, tanks[i].y));
            }
        }
    }

    /** The instructions of a tank. */
    private static final class Program {
        private static final int MOST = 16;

        final int[] ops = new int[MOST];
        final int[] as = new int[MOST];
        final int[] bs = new int[MOST];
        int size;

        static boolean allows(int op, int a, int b) {
            switch (op) {
                case WAIT: return true;
                case SPEED: return within(a, 0, 8);
                case TURN:
                case GUN:
                case RADAR: return within(a, -1, 1);
                case FIRE: return within(a, 1, 3);
                case JUMP:
                case SEEN:
                case BUMPED:
                case HIT:
                case AIMED: return within(a, 0, MOST - 1);
                case SET: return within(a, 0, 1) && within(b, 0, 100);
                case LOOP: return within(a, 0, MOST - 1) && within(b, 0, 1);
                default: return false;
            }
        }

        boolean isFull() {
            return size >= MOST;
        }

        void add(int op, int a, int b) {
            ops[size] = op;
            as[size] = a;
            bs[size] = b;
            size++;
        }
    }

    /** What a tank's program changes and keeps from turn to turn. */
    private static final class Processor {
        final int[] registers = new int[2];
        int counter;
        int skips;

        void clear() {
            registers[0] = 0;
            registers[1] = 0;
            counter = 0;
            skips = 0;
        }
    }

    /** What a tank's program asked for in this turn alone; power 0 is no shot. */
    private static final class Orders {
        int heading;
        int gun;
        int radar;
        int power;

        void clear() {
            heading = 0;
            gun = 0;
            radar = 0;
            power = 0;
        }
    }

    /** What happened to a tank in the last turn and what its radar sees behind it. */
    private static final class Report {
        boolean bumped;
        boolean hit;
        int seen = NO_TANK;
        int distance;

        void clear() {
            bumped = false;
            hit = false;
            seen = NO_TANK;
            distance = 0;
        }

        boolean seesTank() {
            return seen != NO_TANK;
        }

        /** Of tanks at the same distance the one that is noted first stays. */
        void noteSight(int tank, int atDistance) {
            if (!seesTank() || atDistance < distance) {
                seen = tank;
                distance = atDistance;
            }
        }
    }

    private static final class Tank {
        final Program program = new Program();
        final Processor processor = new Processor();
        final Orders orders = new Orders();
        final Report report = new Report();
        int startX;
        int startY;
        int startHeading;
        int x;
        int y;
        int heading;
        int gun;
        int radar;
        int speed;
        int wish;
        int energy;
        int heat;
        int score;
        boolean alive;

        void standAt(int placeX, int placeY, int direction) {
            startX = placeX;
            startY = placeY;
            startHeading = direction;
            startAnew();
        }

        void startAnew() {
            x = startX;
            y = startY;
            heading = startHeading;
            gun = startHeading;
            radar = startHeading;
            speed = 0;
            wish = 0;
            energy = FIRST_ENERGY;
            heat = FIRST_HEAT;
            score = 0;
            alive = true;
            processor.clear();
            orders.clear();
            report.clear();
        }

        boolean isDisabled() {
            return processor.skips >= SKIPS_TO_DISABLE;
        }

        boolean canFire() {
            return orders.power > 0 && heat == 0 && energy > orders.power * UNIT;
        }

        void obeyTurns() {
            if (speed <= TURNING_SPEED) {
                heading = turned(heading, orders.heading);
            }
            gun = turned(gun, orders.gun);
            radar = turned(radar, orders.radar);
        }

        void changeSpeed() {
            int aim = isDisabled() ? 0 : wish;
            if (aim > speed) {
                speed += HALF;
            } else if (aim < speed) {
                speed = Math.max(speed - UNIT, aim);
            }
        }

        void goOn() {
            int freeX = x + STEP_X[heading] * speed;
            int freeY = y + STEP_Y[heading] * speed;
            x = betweenWalls(freeX);
            y = betweenWalls(freeY);
            if (x != freeX || y != freeY) {
                report.bumped = true;
                energy -= speed / 2;
            }
        }

        private static int betweenWalls(int coordinate) {
            return Math.max(TANK_LOW * UNIT, Math.min(TANK_HIGH * UNIT, coordinate));
        }

        void cool() {
            heat = Math.max(heat - QUARTER, 0);
        }

        int distanceTo(int placeX, int placeY) {
            return Math.max(Math.abs(placeX - x), Math.abs(placeY - y));
        }

        int measured(int what) {
            switch (what) {
                case 0: return x;
                case 1: return y;
                case 2: return speed;
                case 3: return energy;
                case 4: return heat;
                case 5: return wish;
                case 6: return score;
                case 7: return report.distance;
                default: return REFUSED;
            }
        }

        int told(int what) {
            switch (what) {
                case 0: return heading;
                case 1: return gun;
                case 2: return radar;
                case 3: return alive ? 1 : 0;
                case 4: return processor.skips;
                case 5: return processor.counter;
                case 6: return processor.registers[0];
                case 7: return processor.registers[1];
                case 8: return report.seen;
                case 9: return report.bumped ? 1 : 0;
                case 10: return report.hit ? 1 : 0;
                default: return REFUSED;
            }
        }
    }

    private static final class Bullet {
        int x;
        int y;
        int power;
        int direction;
        int owner;

        void leave(Tank tank, int number) {
            x = tank.x;
            y = tank.y;
            power = tank.orders.power;
            direction = tank.gun;
            owner = number;
        }

        void goOn() {
            x += STEP_X[direction] * UNIT;
            y += STEP_Y[direction] * UNIT;
        }

        boolean isInField() {
            return within(x, 0, FIELD_END) && within(y, 0, FIELD_END);
        }

        int damage() {
            return (4 * power + 2 * (power - 1)) * UNIT;
        }

        int told(int what) {
            switch (what) {
                case 0: return x;
                case 1: return y;
                case 2: return power;
                case 3: return direction;
                case 4: return owner;
                default: return REFUSED;
            }
        }
    }
}
