/** Step 2, the edges: a heat of 0 or 1/4, an energy of the power or 1/4 above it. */
public final class GunEdgesTest {
    private static final Checks CHECKS = new Checks();
    private static final double[] HEATS = {0, 1.25, 1.5, 1.75};

    /** A tank that asks for one shot, in the turn behind so many WAITs. */
    private static Scene oneShot(int waits, int power) {
        return new Scene(CHECKS, "a shot behind " + waits + " turns")
            .tank(30, 30, 0, Scene.SET, 0, waits, Scene.WAIT, 0, 0, Scene.LOOP, 1, 0, Scene.FIRE, power, 0, Scene.WAIT, 0, 0, Scene.JUMP, 4, 0)
            .tank(4, 60, 2).turns(waits);
    }

    /** "whose heat is 0": the heat of 3 is 1/4 behind 11 turns and 0 behind 12. */
    private static void firstHeat() {
        for (int power = 1; power <= 3; power++) {
            oneShot(11, power).measure(0, Scene.HEAT, 0.25).turns(1).count(Scene.SHOTS, 0).measure(0, Scene.ENERGY, 100)
                .measure(0, Scene.HEAT, 0).turns(5).count(Scene.SHOTS, 0);
            oneShot(12, power).measure(0, Scene.HEAT, 0).turns(1).count(Scene.SHOTS, 1).measure(0, Scene.ENERGY, 100 - power)
                .turns(9).count(Scene.SHOTS, 1);
        }
    }

    /** "heat 1 + p / 4", which is 1/4 less behind step 4; the next shot is in the turn behind the one that cooled it. */
    private static void heatOfAShot() {
        for (int power = 1; power <= 3; power++) {
            Scene scene = new Scene(CHECKS, "power " + power).tank(30, 30, 0, Scene.FIRE, power, 0).tank(4, 60, 2).turns(13);
            for (int turn = 1; turn <= 4 + power; turn++) {
                scene.count(Scene.SHOTS, 1).measure(0, Scene.HEAT, HEATS[power] - 0.25 * turn).turns(1);
            }
            scene.count(Scene.SHOTS, 2).measure(0, Scene.HEAT, HEATS[power] - 0.25).measure(0, Scene.ENERGY, 100 - 2 * power);
        }
    }

    /**
     * Tank 0 loses 1/4 at the wall in every turn. It has 1 + power left when the LOOPs are over; then it WAITs for
     * some turns more (an instruction of zeros is a WAIT) and asks for its one shot.
     */
    private static Scene weak(int power, int[] waits) {
        int[] program = {Scene.SPEED, 1, 0, Scene.SET, 1, 4, Scene.SET, 0, 99 - power, Scene.WAIT, 0, 0, Scene.LOOP, 3, 0, Scene.LOOP, 2, 1};
        int[] shot = {Scene.FIRE, power, 0, Scene.WAIT, 0, 0};
        int[] all = new int[program.length + waits.length + shot.length];
        System.arraycopy(program, 0, all, 0, program.length);
        System.arraycopy(waits, 0, all, program.length, waits.length);
        System.arraycopy(shot, 0, all, program.length + waits.length, shot.length);
        return new Scene(CHECKS, "weak").tank(62, 30, 0, all).tank(4, 60, 2).turns(4 * (99 - power) + waits.length / 3);
    }

    /** "whose energy is above p": 1/4 above it fires and lives on, p itself does not fire. */
    private static void energyAbovePower() {
        for (int power = 1; power <= 3; power++) {
            weak(power, new int[9]).measure(0, Scene.ENERGY, power + 0.25).count(Scene.SHOTS, 0)
                .turns(1).count(Scene.SHOTS, 1).measure(0, Scene.ENERGY, 0).measure(0, Scene.HEAT, HEATS[power] - 0.25);
            weak(power, new int[6]).measure(0, Scene.ENERGY, power + 0.5).count(Scene.SHOTS, 0)
                .turns(1).count(Scene.SHOTS, 1).measure(0, Scene.ENERGY, 0.25).state(0, Scene.ALIVE, 1);
            weak(power, new int[12]).measure(0, Scene.ENERGY, power).count(Scene.SHOTS, 0)
                .turns(1).count(Scene.SHOTS, 0).measure(0, Scene.ENERGY, power - 0.25).measure(0, Scene.HEAT, 0)
                .state(0, Scene.ALIVE, 1);
        }
    }

    /** "a bullet with the power and the gun's direction is at the tank's place": it leaves from the border too. */
    private static void fromTheWall() {
        new Scene(CHECKS, "along the wall").tank(2, 2, 0, Scene.FIRE, 2, 0).tank(30, 62, 0).turns(13).bullet(0, 8, 2, 2, 0, 0);
        new Scene(CHECKS, "into the corner").tank(62, 62, 1, Scene.FIRE, 3, 0).tank(30, 30, 0).turns(13).count(Scene.SHOTS, 1)
            .count(Scene.BULLETS, 0).measure(0, Scene.ENERGY, 97).measure(0, Scene.HEAT, 1.5);
    }

    /** Neither the heading's nor the radar's direction, and the gun's before it turns on in step 4. */
    private static void gunsDirection() {
        new Scene(CHECKS, "gun")
            .tank(30, 30, 0, Scene.GUN, 1, 0, Scene.WAIT, 0, 0, Scene.GUN, 1, 0, Scene.WAIT, 0, 0, Scene.RADAR, -1, 0,
            Scene.FIRE, 1, 0, Scene.WAIT, 0, 0, Scene.JUMP, 4, 0).tank(4, 4, 0)
            .turns(13).state(0, Scene.HEADING, 0).state(0, Scene.GUN_AT, 2).count(Scene.SHOTS, 1).bullet(0, 30, 37, 1, 2, 0);
        new Scene(CHECKS, "turning gun").tank(30, 30, 0, Scene.GUN, 1, 0, Scene.FIRE, 1, 0).tank(4, 4, 0)
            .turns(12).state(0, Scene.GUN_AT, 4).turns(1).state(0, Scene.GUN_AT, 5).bullet(0, 23, 30, 1, 4, 0);
    }

    /** The place is the one before the tank goes on in step 4. */
    private static void tanksPlace() {
        new Scene(CHECKS, "place").tank(10, 10, 0, Scene.SPEED, 1, 0, Scene.FIRE, 1, 0).tank(10, 50, 0)
            .turns(12).place(0, 16, 10).turns(1).place(0, 16.5, 10).bullet(0, 16 + 7, 10, 1, 0, 0);
    }

    /**
     * All that can be in the air: from the left wall a bullet of power 3 is at 62 behind turn 24 and flies on in turn 25, one of
     * power 1 followed it in turn 20 and another does in turn 25. Not one of the 12 shots is left out.
     */
    private static void asManyAsCanBe() {
        int[] program = {Scene.SET, 0, 19, Scene.FIRE, 3, 0, Scene.WAIT, 0, 0, Scene.LOOP, 1, 0, Scene.FIRE, 1, 0, Scene.WAIT, 0, 0, Scene.JUMP, 4, 0};
        Scene scene = new Scene(CHECKS, "many");
        for (int tank = 0; tank < 4; tank++) {
            scene.tank(2, 10 + 10 * tank, 0, program);
        }
        scene.turns(24).count(Scene.SHOTS, 8).count(Scene.BULLETS, 8);
        for (int tank = 0; tank < 4; tank++) {
            scene.bullet(tank, 62, 10 + 10 * tank, 3, 0, tank).bullet(4 + tank, 37, 10 + 10 * tank, 1, 0, tank);
        }
        scene.turns(1).count(Scene.SHOTS, 12).count(Scene.BULLETS, 8);
        for (int tank = 0; tank < 4; tank++) {
            scene.bullet(tank, 44, 10 + 10 * tank, 1, 0, tank).bullet(4 + tank, 9, 10 + 10 * tank, 1, 0, tank);
        }
    }

    /** A tank that is no longer alive does not fire: tank 1 dies in turn 48 of 6 hits and 8 shots and would fire in turn 53. */
    private static void deadDoNotFire() {
        new Scene(CHECKS, "dead").tank(10, 10, 0, Scene.FIRE, 3, 0).tank(15, 10, 2, Scene.FIRE, 1, 0).tank(50, 50, 0)
            .turns(47).state(1, Scene.ALIVE, 1).measure(1, Scene.ENERGY, 100 - 5 * 16 - 7)
            .turns(1).state(1, Scene.ALIVE, 0).measure(1, Scene.ENERGY, -4).count(Scene.SHOTS, 6 + 8)
            .turns(6).count(Scene.SHOTS, 6 + 8).measure(1, Scene.ENERGY, -4).turns(1).count(Scene.SHOTS, 7 + 8);
    }

    /** A tank that dies of a bullet in the turn of its shot has fired, as step 2 comes first; step 4 cools it no more. */
    private static void firesBeforeItDies() {
        new Scene(CHECKS, "last shot").tank(10, 10, 0, Scene.FIRE, 3, 0)
            .tank(15, 10, 2, Scene.SET, 0, 54, Scene.WAIT, 0, 0, Scene.LOOP, 1, 0, Scene.FIRE, 1, 0).tank(50, 50, 0)
            .turns(54).measure(1, Scene.ENERGY, 4).count(Scene.SHOTS, 6)
            .turns(1).state(1, Scene.ALIVE, 0).count(Scene.SHOTS, 8).measure(1, Scene.ENERGY, 4 - 1 - 16)
            .bullet(0, 15, 17, 1, 2, 1)
            .measure(1, Scene.HEAT, 1.25).turns(3).measure(1, Scene.HEAT, 1.25);
    }

    public static void main(String[] args) {
        firstHeat();
        heatOfAShot();
        energyAbovePower();
        fromTheWall();
        gunsDirection();
        tanksPlace();
        asManyAsCanBe();
        deadDoNotFire();
        firesBeforeItDies();
        CHECKS.end();
    }
}
