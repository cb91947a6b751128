/** Promise 4: what a turn answers and when it is refused. */
public final class TurnTest {
    private static final int NO = TankArena.REFUSED;
    private static final Checks CHECKS = new Checks();

    private static void tooFew() {
        TankArena arena = new TankArena();
        CHECKS.due("no tank", arena.turn(), NO);
        arena.enter(10, 10, 0);
        CHECKS.due("one tank", arena.turn(), NO);
        CHECKS.due("turns", arena.count(Scene.TURNS), 0);
        CHECKS.due("still at the start", arena.enter(20, 10, 0), 1);
        CHECKS.due("two tanks", arena.turn(), 2);
        CHECKS.due("turns", arena.count(Scene.TURNS), 1);
    }

    private static void answersTheLiving() {
        Scene scene = new Scene(CHECKS, "four").tank(10, 10, 0).tank(20, 10, 0).tank(30, 10, 0).tank(40, 10, 0);
        CHECKS.due("four tanks", scene.arena.turn(), 4);
    }

    /** Seven hits of 16, every seventh turn from the 13th on. */
    private static void overWhenOneIsLeft() {
        Scene scene = new Scene(CHECKS, "last one").tank(10, 10, 0, Scene.FIRE, 3, 0).tank(15, 10, 2);
        scene.turns(54).measure(1, Scene.ENERGY, 4).state(1, Scene.ALIVE, 1);
        CHECKS.due("the last turn", scene.arena.turn(), 1);
        scene.measure(1, Scene.ENERGY, -12).state(1, Scene.ALIVE, 0).state(1, Scene.WAS_HIT, 1).count(Scene.TURNS, 55);
        String before = scene.picture();
        CHECKS.due("one alive", scene.arena.turn(), NO);
        CHECKS.due("behind the refused turn", scene.picture(), before);
    }

    /** Both shove until both are spent in one bump: 200 times 1/2. */
    private static void overWhenNoneIsLeft() {
        Scene scene = new Scene(CHECKS, "none left").tank(10, 10, 0, Scene.SPEED, 1, 0).tank(14, 10, 0);
        scene.turns(199).measure(0, Scene.ENERGY, 0.5).measure(1, Scene.ENERGY, 0.5);
        CHECKS.due("the last turn", scene.arena.turn(), 0);
        scene.state(0, Scene.ALIVE, 0).state(1, Scene.ALIVE, 0).count(Scene.LIVING, 0);
        CHECKS.due("none alive", scene.arena.turn(), NO);
        scene.count(Scene.TURNS, 200);
        CHECKS.due("restart", scene.arena.restart(), 200);
        CHECKS.due("a turn again", scene.arena.turn(), 2);
    }

    public static void main(String[] args) {
        tooFew();
        answersTheLiving();
        overWhenOneIsLeft();
        overWhenNoneIsLeft();
        CHECKS.end();
    }
}
