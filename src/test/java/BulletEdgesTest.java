/** Step 3, the edges: how far a bullet goes, what it just meets or misses, and a last hit. */
public final class BulletEdgesTest {
    private static final Checks CHECKS = new Checks();
    private static final int[] STEP_X = {1, 1, 0, -1, -1, -1, 0, 1};
    private static final int[] STEP_Y = {0, 1, 1, 1, 0, -1, -1, -1};

    /** A shot of tank 0 from 32, 32; tank 1 stands so many units off in the shot's direction. */
    private static Scene shotAt(int direction, int power, int units) {
        return new Scene(CHECKS, "direction " + direction + ", power " + power + ", " + units + " off")
            .tank(32, 32, direction, Scene.FIRE, power, 0)
            .tank(32 + units * STEP_X[direction], 32 + units * STEP_Y[direction], 0).turns(13).count(Scene.SHOTS, 1);
    }

    /** "goes 8 - p units": one that stands 2 behind that place is hit in the first turn, one unit further in the second. */
    private static void howFar() {
        for (int power = 1; power <= 3; power++) {
            int far = 8 - power;
            for (int direction = 0; direction < 8; direction++) {
                shotAt(direction, power, far + 2).count(Scene.HITS, 1).count(Scene.BULLETS, 0);
                shotAt(direction, power, far + 3).count(Scene.HITS, 0)
                    .bullet(0, 32 + far * STEP_X[direction], 32 + far * STEP_Y[direction], power, direction, 0)
                    .turns(1).count(Scene.HITS, 1).count(Scene.BULLETS, 0);
            }
        }
    }

    /** "one after another": a tank between the places of two turns is met, and nothing behind it. */
    private static void unitByUnit() {
        new Scene(CHECKS, "between").tank(10, 30, 0, Scene.FIRE, 1, 0).tank(14, 30, 0).tank(19, 30, 0)
            .turns(13).state(1, Scene.WAS_HIT, 1).state(2, Scene.WAS_HIT, 0).count(Scene.HITS, 1);
        new Scene(CHECKS, "in front of the border").tank(58, 30, 0, Scene.FIRE, 1, 0).tank(62, 30, 0).turns(13)
            .count(Scene.HITS, 1);
    }

    /** The target stands off the line of a bullet to the right or upwards, half a unit further if it is told so. */
    private static void beside(int off, boolean further, boolean hit) {
        int away = off < 0 ? -1 : 1;
        String name = "beside " + off + (further ? " and 1/2" : "");
        int[] program = further ? Scene.halfAStep() : new int[0];
        int hits = hit ? 1 : 0;
        new Scene(CHECKS, name + ", in y").tank(10, 30, 0, Scene.FIRE, 1, 0).tank(16, 30 + off, away > 0 ? 2 : 6, program)
            .turns(13).measure(1, Scene.Y, 30 + off + (further ? 0.5 * away : 0)).count(Scene.HITS, hits)
            .state(1, Scene.WAS_HIT, hits)
            .count(Scene.BULLETS, 1 - hits);
        new Scene(CHECKS, name + ", in x").tank(30, 10, 2, Scene.FIRE, 1, 0).tank(30 + off, 16, away > 0 ? 0 : 4, program)
            .turns(13).measure(1, Scene.X, 30 + off + (further ? 0.5 * away : 0)).count(Scene.HITS, hits)
            .state(1, Scene.WAS_HIT, hits)
            .count(Scene.BULLETS, 1 - hits);
    }

    /** "differ by at most 2 in x and in y": 2 is hit, 2 1/2 is not, on all sides. */
    private static void atMostTwo() {
        for (int off = -2; off <= 2; off++) {
            beside(off, false, true);
        }
        beside(1, true, true);
        beside(-1, true, true);
        beside(2, true, false);
        beside(-2, true, false);
        beside(3, false, false);
        beside(-3, false, false);
    }

    /** Ahead: the bullet stops at 17 in turn 13; 19 is within 2, 19 1/2 is not. */
    private static void atMostTwoAhead() {
        new Scene(CHECKS, "2 ahead").tank(10, 30, 0, Scene.FIRE, 1, 0).tank(19, 30, 0).turns(13).count(Scene.HITS, 1);
        new Scene(CHECKS, "2 1/2 ahead").tank(10, 30, 0, Scene.FIRE, 1, 0).tank(19, 30, 0, Scene.halfAStep())
            .turns(13).measure(1, Scene.X, 19.5).count(Scene.HITS, 0).bullet(0, 17, 30, 1, 0, 0).turns(1).count(Scene.HITS, 1);
        new Scene(CHECKS, "1 1/2 ahead").tank(10, 30, 0, Scene.FIRE, 1, 0).tank(19, 30, 4, Scene.halfAStep())
            .turns(13).measure(1, Scene.X, 18.5).count(Scene.HITS, 1);
    }

    /** Step 3 comes before step 4: what counts is where the target stands before it goes on in turn 13. */
    private static void beforeTheTanksMove() {
        int[] program = {Scene.SET, 0, 12, Scene.WAIT, 0, 0, Scene.LOOP, 1, 0, Scene.SPEED, 1, 0, Scene.WAIT, 0, 0, Scene.JUMP, 4, 0};
        new Scene(CHECKS, "away from 2 ahead").tank(10, 30, 0, Scene.FIRE, 1, 0).tank(19, 30, 0, program)
            .turns(13).measure(1, Scene.X, 19.5).count(Scene.HITS, 1);
        new Scene(CHECKS, "up to 2 1/2 ahead").tank(10, 30, 0, Scene.FIRE, 1, 0).tank(20, 30, 4, program)
            .turns(13).measure(1, Scene.X, 19.5).count(Scene.HITS, 0).turns(1).count(Scene.HITS, 1);
    }

    /** "if its place is not within the field, it is gone": at 64, 16 it still hits the tank 2 off; at 65, 17 it is gone. */
    private static void lastPlaceInTheField() {
        new Scene(CHECKS, "met on the border").tank(58, 10, 1, Scene.FIRE, 1, 0).tank(62, 18, 0)
            .turns(13).count(Scene.BULLETS, 0).count(Scene.HITS, 1).measure(1, Scene.ENERGY, 96);
        new Scene(CHECKS, "gone at the border").tank(58, 10, 1, Scene.FIRE, 1, 0).tank(62, 19, 0)
            .turns(13).count(Scene.BULLETS, 0).count(Scene.HITS, 0).measure(1, Scene.ENERGY, 100);
        new Scene(CHECKS, "met on the other border").tank(6, 54, 5, Scene.FIRE, 1, 0).tank(2, 46, 0)
            .turns(13).count(Scene.BULLETS, 0).count(Scene.HITS, 1);
        new Scene(CHECKS, "gone at the other border").tank(6, 54, 5, Scene.FIRE, 1, 0).tank(2, 45, 0)
            .turns(13).count(Scene.BULLETS, 0).count(Scene.HITS, 0);
    }

    /** "tanks other than the one that fired it": its own place is the nearest, and it is never hit. */
    private static void notTheOwnTank() {
        for (int direction = 0; direction < 8; direction++) {
            for (int power = 1; power <= 3; power++) {
                shotAt(direction, power, 20).state(0, Scene.WAS_HIT, 0).measure(0, Scene.ENERGY, 100 - power)
                    .count(Scene.BULLETS, 1)
                    .count(Scene.HITS, 0);
            }
        }
        // At speed 4 behind a bullet of 5 units a turn: 43 and 42, then 44 within 2 of 42 and on to 48.
        new Scene(CHECKS, "behind its own bullet").tank(4, 30, 0, Scene.SPEED, 8, 0, Scene.FIRE, 3, 0).tank(4, 60, 0)
            .turns(13).place(0, 42, 30).bullet(0, 43, 30, 3, 0, 0)
            .turns(1).place(0, 46, 30).bullet(0, 48, 30, 3, 0, 0).state(0, Scene.WAS_HIT, 0).measure(0, Scene.ENERGY, 97);
    }

    /** "the one of them with the least number": of two within 2 at once, however near; the other order of entering too. */
    private static void leastNumber() {
        new Scene(CHECKS, "first below").tank(10, 30, 0, Scene.FIRE, 1, 0).tank(18, 28, 0).tank(18, 32, 0)
            .turns(13).state(1, Scene.WAS_HIT, 1).state(2, Scene.WAS_HIT, 0).count(Scene.HITS, 1);
        new Scene(CHECKS, "first above").tank(10, 30, 0, Scene.FIRE, 1, 0).tank(18, 32, 0).tank(18, 28, 0)
            .turns(13).state(1, Scene.WAS_HIT, 1).state(2, Scene.WAS_HIT, 0).count(Scene.HITS, 1);
        new Scene(CHECKS, "before the one that fires").tank(18, 32, 0).tank(18, 28, 0).tank(10, 30, 0, Scene.FIRE, 1, 0)
            .turns(13).state(0, Scene.WAS_HIT, 1).state(1, Scene.WAS_HIT, 0).count(Scene.HITS, 1);
        new Scene(CHECKS, "the greater number is met a unit before").tank(10, 30, 0, Scene.FIRE, 1, 0).tank(19, 28, 0)
            .tank(18, 32, 0)
            .turns(13).state(1, Scene.WAS_HIT, 0).state(2, Scene.WAS_HIT, 1).count(Scene.HITS, 1);
    }

    /** "its energy is less by 4 p, and by 2 (p - 1) besides, the one that fired gets 3 p": for each power. */
    private static void takenAndGiven() {
        int[] taken = {0, 4, 10, 16};
        for (int power = 1; power <= 3; power++) {
            new Scene(CHECKS, "power " + power).tank(10, 30, 0, Scene.FIRE, power, 0).tank(15, 30, 0).tank(50, 50, 0)
                .turns(13).measure(1, Scene.ENERGY, 100 - taken[power]).measure(0, Scene.ENERGY, 100 - power + 3 * power)
                .measure(0, Scene.SCORE, taken[power]).measure(1, Scene.SCORE, 0).measure(2, Scene.ENERGY, 100);
        }
    }

    /**
     * Tank 1 loses so many quarters at the wall first; then it is hit from turn 14 on in every fifth turn, 4 each time,
     * 24 times until turn 129.
     */
    private static Scene hitAtTheWall(int bumps) {
        return new Scene(CHECKS, bumps + " bumps before").tank(50, 30, 0, Scene.FIRE, 1, 0)
            .tank(62, 30, 0, Scene.SET, 0, bumps, Scene.SPEED, 1, 0, Scene.WAIT, 0, 0, Scene.LOOP, 1, 0, Scene.SPEED, 0, 0, Scene.WAIT, 0, 0,
                Scene.JUMP, 5, 0)
            .tank(4, 60, 0).turns(128).count(Scene.HITS, 23).measure(1, Scene.ENERGY, 100 - 23 * 4 - bumps * 0.25);
    }

    /** "a tank whose energy is then not above 0 is no longer alive": 1/4 is alive, 0 is not, nor is -1/4. */
    private static void lastHit() {
        hitAtTheWall(15).turns(1).measure(1, Scene.ENERGY, 0.25).state(1, Scene.ALIVE, 1).count(Scene.LIVING, 3)
            .state(1, Scene.WAS_HIT, 1);
        hitAtTheWall(16).turns(1).measure(1, Scene.ENERGY, 0).state(1, Scene.ALIVE, 0).count(Scene.LIVING, 2)
            .state(1, Scene.WAS_HIT, 1);
        hitAtTheWall(17).turns(1).measure(1, Scene.ENERGY, -0.25).state(1, Scene.ALIVE, 0).count(Scene.LIVING, 2);
    }

    /** "if tanks .. are alive": a dead one is flown through; tank 2 behind it is hit from then on. */
    private static void deadAreNotHit() {
        new Scene(CHECKS, "through the dead").tank(10, 10, 0, Scene.FIRE, 3, 0).tank(15, 10, 0).tank(20, 10, 0)
            .turns(55).state(1, Scene.ALIVE, 0).count(Scene.HITS, 7)
            .turns(7).count(Scene.BULLETS, 1).bullet(0, 15, 10, 3, 0, 0).measure(1, Scene.ENERGY, -12).state(1, Scene.WAS_HIT, 0)
            .turns(1).count(Scene.HITS, 8).measure(2, Scene.ENERGY, 84);
    }

    /** "Each bullet, in the order in which they were fired": the first kills in turn 34, the second of that turn flies on. */
    private static void inOrder() {
        Scene scene = new Scene(CHECKS, "two at one").tank(10, 30, 0, Scene.FIRE, 3, 0).tank(20, 30, 4, Scene.FIRE, 3, 0)
            .tank(15, 30, 2)
            .turns(33).measure(2, Scene.ENERGY, 100 - 6 * 16).count(Scene.BULLETS, 0);
        scene.turns(1).state(2, Scene.ALIVE, 0).count(Scene.BULLETS, 1).bullet(0, 15, 30, 3, 4, 1)
            .measure(0, Scene.SCORE, 4 * 16 + 50)
            .measure(1, Scene.SCORE, 3 * 16 + 50);
    }

    /** Two that hit each other in every seventh turn at a loss of 10; in turn 76 tank 1 dies of the first bullet. */
    private static Scene exchange() {
        return new Scene(CHECKS, "exchange").tank(10, 30, 0, Scene.FIRE, 3, 0).tank(14, 30, 4, Scene.FIRE, 3, 0).tank(50, 50, 0)
            .turns(75).measure(0, Scene.ENERGY, 10).measure(1, Scene.ENERGY, 10);
    }

    /** "the one that fired gets 3 p energy if it is alive": tank 1 does not; "A dead tank's bullets fly on", hit and score. */
    private static void deadOnesBullet() {
        exchange().turns(1).state(1, Scene.ALIVE, 0).measure(1, Scene.ENERGY, 10 - 3 - 16).measure(1, Scene.SCORE, 9 * 16 + 16)
            .state(0, Scene.WAS_HIT, 1).measure(0, Scene.ENERGY, 10 - 3 + 9 - 16).state(0, Scene.ALIVE, 0).count(Scene.HITS, 20);
    }

    /** A bullet on its way when its tank dies is there, moves and is told as before. */
    private static void deadOnesBulletOnItsWay() {
        Scene scene = new Scene(CHECKS, "on its way").tank(10, 10, 0, Scene.FIRE, 3, 0)
            .tank(15, 10, 2, Scene.SET, 0, 53, Scene.WAIT, 0, 0, Scene.LOOP, 1, 0, Scene.FIRE, 1, 0, Scene.WAIT, 0, 0)
            .tank(15, 50, 0).tank(50, 50, 0);
        scene.turns(54).bullet(0, 15, 17, 1, 2, 1).turns(1).state(1, Scene.ALIVE, 0).bullet(0, 15, 24, 1, 2, 1)
            .turns(1).bullet(0, 15, 31, 1, 2, 1).turns(2).bullet(0, 15, 45, 1, 2, 1).measure(2, Scene.ENERGY, 100)
            .turns(1).count(Scene.BULLETS, 0).measure(2, Scene.ENERGY, 96).measure(1, Scene.SCORE, 4)
            .measure(1, Scene.ENERGY, 4 - 1 - 16);
    }

    public static void main(String[] args) {
        howFar();
        unitByUnit();
        atMostTwo();
        atMostTwoAhead();
        beforeTheTanksMove();
        lastPlaceInTheField();
        notTheOwnTank();
        leastNumber();
        takenAndGiven();
        lastHit();
        deadAreNotHit();
        inOrder();
        deadOnesBullet();
        deadOnesBulletOnItsWay();
        CHECKS.end();
    }
}
