/** Promise 4, step 2: the guns. */
public final class GunsTest {
    private static final Checks CHECKS = new Checks();

    private static void heatAndEnergy() {
        double[] heats = {0, 1.25, 1.5, 1.75};
        for (int power = 1; power <= 3; power++) {
            new Scene(CHECKS, "power " + power).tank(10, 10, 0, Scene.FIRE, power, 0).tank(10, 50, 0)
                .turns(1).measure(0, Scene.HEAT, 2.75)
                .turns(11).measure(0, Scene.HEAT, 0).count(Scene.SHOTS, 0).measure(0, Scene.ENERGY, 100)
                .turns(1).count(Scene.SHOTS, 1).measure(0, Scene.ENERGY, 100 - power)
                .measure(0, Scene.HEAT, heats[power] - 0.25)
                .turns(3 + power).count(Scene.SHOTS, 1).measure(0, Scene.HEAT, 0)
                .turns(1).count(Scene.SHOTS, 2).measure(0, Scene.ENERGY, 100 - 2 * power);
        }
    }

    private static void notAskedFor() {
        new Scene(CHECKS, "not asked").tank(10, 10, 0, Scene.WAIT, 0, 0).tank(10, 50, 0)
            .turns(20).count(Scene.SHOTS, 0).measure(0, Scene.HEAT, 0);
    }

    /** The gun's direction in step 2 is that before the gun turns in step 4. */
    private static void gunBeforeItTurns() {
        new Scene(CHECKS, "gun").tank(30, 30, 0, Scene.GUN, 1, 0, Scene.FIRE, 1, 0).tank(10, 50, 0)
            .turns(13).bullet(0, 23, 30, 1, 12 % 8, 0).state(0, Scene.GUN_AT, 13 % 8);
    }

    /** The bullet starts where the tank was before step 4. */
    private static void placeBeforeItMoves() {
        new Scene(CHECKS, "place").tank(10, 10, 0, Scene.SPEED, 1, 0, Scene.FIRE, 1, 0).tank(10, 50, 0)
            .turns(12).place(0, 16, 10)
            .turns(1).place(0, 16.5, 10).bullet(0, 23, 10, 1, 0, 0);
    }

    /** Tank 1 shoves tank 0, 1/2 a turn each; tank 0 fires once, after the given number of LOOPs. */
    private static Scene weak(String name, int power, int first, int second) {
        return new Scene(CHECKS, name)
            .tank(30, 30, 2, Scene.SET, 0, first, Scene.WAIT, 0, 0, Scene.LOOP, 1, 0, Scene.SET, 0, second,
                Scene.WAIT, 0, 0, Scene.LOOP, 4, 0, Scene.FIRE, power, 0, Scene.WAIT, 0, 0, Scene.JUMP, 7, 0)
            .tank(34, 30, 4, Scene.SPEED, 1, 0);
    }

    private static void energyAbovePower() {
        for (int power = 1; power <= 3; power++) {
            int turns = 200 - 2 * power;
            // The FIRE is in the turn first + second + 1.
            weak("just enough", power, 99, turns - 100).turns(turns - 1).measure(0, Scene.ENERGY, power + 0.5)
                .turns(1).count(Scene.SHOTS, 1).measure(0, Scene.ENERGY, 0);
            weak("not above", power, 99, turns - 99).turns(turns).measure(0, Scene.ENERGY, power)
                .turns(1).count(Scene.SHOTS, 0).measure(0, Scene.ENERGY, power - 0.5);
        }
    }

    private static void byRisingNumbers() {
        new Scene(CHECKS, "order").tank(10, 10, 0, Scene.FIRE, 1, 0).tank(10, 20, 0, Scene.FIRE, 2, 0)
            .tank(10, 30, 0, Scene.FIRE, 3, 0)
            .turns(13).count(Scene.BULLETS, 3)
            .bullet(0, 17, 10, 1, 0, 0).bullet(1, 16, 20, 2, 0, 1).bullet(2, 15, 30, 3, 0, 2);
    }

    public static void main(String[] args) {
        heatAndEnergy();
        notAskedFor();
        gunBeforeItTurns();
        placeBeforeItMoves();
        energyAbovePower();
        byRisingNumbers();
        CHECKS.end();
    }
}
