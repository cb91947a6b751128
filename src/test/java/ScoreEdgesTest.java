/** The score, the edges: a last hit in full, deaths while alive or dead, several deaths in one turn. */
public final class ScoreEdgesTest {
    private static final Checks CHECKS = new Checks();

    /** "(4 p and 2 (p - 1) in full)": a hit of 16 on an energy of 4. */
    private static void lastHitInFull() {
        new Scene(CHECKS, "in full").tank(10, 10, 0, Scene.FIRE, 3, 0).tank(15, 10, 2)
            .turns(54).measure(1, Scene.ENERGY, 4).measure(0, Scene.SCORE, 6 * 16)
            .turns(1).measure(1, Scene.ENERGY, -12).measure(0, Scene.SCORE, 7 * 16 + 50).measure(1, Scene.SCORE, 0);
    }

    /** "the energy that its bullets took": what bumps and shots cost is no one's score. */
    private static void bumpsDoNotCount() {
        new Scene(CHECKS, "bumps").tank(30, 62, 1, Scene.SPEED, 1, 0).tank(34, 62, 0)
            .turns(20).measure(1, Scene.ENERGY, 90).measure(0, Scene.SCORE, 0).measure(1, Scene.SCORE, 0);
        new Scene(CHECKS, "shots").tank(30, 30, 2, Scene.FIRE, 3, 0).tank(60, 30, 0)
            .turns(20).count(Scene.SHOTS, 2).measure(0, Scene.SCORE, 0).measure(1, Scene.SCORE, 0);
    }

    /** "50 for each other tank that died": each of the living gets it, whoever killed; the dead one nothing. */
    private static void fiftyForEach() {
        new Scene(CHECKS, "one death").tank(10, 10, 0, Scene.FIRE, 3, 0).tank(15, 10, 2).tank(50, 50, 0).tank(50, 40, 0)
            .turns(54).measure(2, Scene.SCORE, 0).measure(3, Scene.SCORE, 0)
            .turns(1).measure(0, Scene.SCORE, 7 * 16 + 50).measure(1, Scene.SCORE, 0).measure(2, Scene.SCORE, 50)
            .measure(3, Scene.SCORE, 50)
            .turns(1).measure(2, Scene.SCORE, 50).measure(3, Scene.SCORE, 50);
        new Scene(CHECKS, "at the wall").tank(62, 30, 0, Scene.SPEED, 1, 0).tank(30, 30, 0).tank(4, 4, 0)
            .turns(400).measure(0, Scene.SCORE, 0).measure(1, Scene.SCORE, 50).measure(2, Scene.SCORE, 50);
    }

    /** "while it was alive": tank 1 dies in turn 55, tank 2 behind it later. */
    private static void whileItWasAlive() {
        new Scene(CHECKS, "two deaths").tank(10, 10, 0, Scene.FIRE, 3, 0).tank(15, 10, 2).tank(20, 10, 2).tank(50, 50, 0)
            .turns(55).state(1, Scene.ALIVE, 0).measure(2, Scene.SCORE, 50)
            // The shots of turns 62 to 104 hit a turn later.
            .turns(50).state(2, Scene.ALIVE, 0).measure(0, Scene.SCORE, 14 * 16 + 100).measure(1, Scene.SCORE, 0)
            .measure(2, Scene.SCORE, 50)
            .measure(3, Scene.SCORE, 100);
    }

    /** "(when several die in one bump, the other one dies first)": the one that bumps has 50 for it, whatever its number. */
    private static void bothDieInOneBump() {
        new Scene(CHECKS, "tank 0 bumps").tank(10, 10, 0, Scene.SPEED, 1, 0).tank(14, 10, 0).tank(50, 50, 0)
            .turns(200).state(0, Scene.ALIVE, 0).state(1, Scene.ALIVE, 0)
            .measure(0, Scene.SCORE, 50).measure(1, Scene.SCORE, 0).measure(2, Scene.SCORE, 100);
        new Scene(CHECKS, "tank 1 bumps").tank(10, 10, 0).tank(14, 10, 4, Scene.SPEED, 1, 0).tank(50, 50, 0)
            .turns(200).state(0, Scene.ALIVE, 0).state(1, Scene.ALIVE, 0)
            .measure(0, Scene.SCORE, 0).measure(1, Scene.SCORE, 50).measure(2, Scene.SCORE, 100);
    }

    /** Only the one that bumps dies, or only the other one. */
    private static void oneDiesInABump() {
        new Scene(CHECKS, "the one that bumps").tank(30, 62, 1, Scene.SPEED, 1, 0).tank(34, 62, 0)
            .turns(134).state(0, Scene.ALIVE, 0).measure(0, Scene.SCORE, 0).measure(1, Scene.SCORE, 50);
        new Scene(CHECKS, "the other one").tank(26, 30, 0, Scene.SPEED, 1, 0).tank(30, 30, 0).tank(34, 30, 4, Scene.SPEED, 1, 0)
            .turns(100).state(1, Scene.ALIVE, 0).measure(0, Scene.SCORE, 50).measure(1, Scene.SCORE, 0)
            .measure(2, Scene.SCORE, 50);
    }

    /** Two die in step 3 of turn 76, one behind the other: the first has nothing for the second. */
    private static void oneAfterAnother() {
        new Scene(CHECKS, "exchange").tank(10, 30, 0, Scene.FIRE, 3, 0).tank(14, 30, 4, Scene.FIRE, 3, 0).tank(50, 50, 0)
            .turns(75).measure(0, Scene.SCORE, 9 * 16).measure(1, Scene.SCORE, 9 * 16)
            .turns(1).state(0, Scene.ALIVE, 0).state(1, Scene.ALIVE, 0)
            .measure(0, Scene.SCORE, 10 * 16 + 50).measure(1, Scene.SCORE, 10 * 16).measure(2, Scene.SCORE, 100);
    }

    /** The last one of four has three times 50. */
    private static void threeDeaths() {
        new Scene(CHECKS, "three deaths").tank(10, 10, 0, Scene.SPEED, 1, 0).tank(14, 10, 0).tank(50, 50, 0)
            .tank(62, 30, 0, Scene.SPEED, 2, 0, Scene.TURN, 0, 0)
            .turns(200).count(Scene.LIVING, 2).measure(2, Scene.SCORE, 100).measure(3, Scene.SCORE, 100)
            .turns(200).count(Scene.LIVING, 1).measure(2, Scene.SCORE, 150).measure(3, Scene.SCORE, 100);
    }

    public static void main(String[] args) {
        lastHitInFull();
        bumpsDoNotCount();
        fiftyForEach();
        whileItWasAlive();
        bothDieInOneBump();
        oneDiesInABump();
        oneAfterAnother();
        threeDeaths();
        CHECKS.end();
    }
}
