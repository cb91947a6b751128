import java.util.function.Consumer;

/** Promise 4, the edges: at least two tanks alive, else REFUSED; and what an answer counts. */
public final class TurnEdgesTest {
    private static final Checks CHECKS = new Checks();

    private static void refused(String why, Consumer<Scene> setUp) {
        Twins.refused(CHECKS, "turn, " + why, setUp, TankArena::turn);
    }

    /** "if at least two tanks are alive": of those that were entered. */
    private static void fewEntered() {
        refused("none there", scene -> { });
        refused("one there", scene -> scene.tank(10, 10, 0, Scene.SPEED, 8, 0));
        Scene two = new Scene(CHECKS, "two").tank(10, 10, 0).tank(20, 20, 0);
        CHECKS.due("turn, two there", two.arena.turn(), 2);
        two.count(Scene.TURNS, 1);
    }

    /** A bullet is in the air when tank 1 dies in turn 141 of its 25th hit; tank 0 counts its runs. */
    private static Scene shotDead(Scene scene) {
        return scene.tank(2, 30, 0, Scene.FIRE, 1, 0, Scene.LOOP, 0, 0).tank(62, 30, 0);
    }

    /** "Fewer than two are alive: REFUSED": one, with all that could go on standing still. */
    private static void oneAlive() {
        Scene scene = shotDead(new Scene(CHECKS, "shot dead")).turns(139);
        CHECKS.due("turn 140", scene.arena.turn(), 2);
        scene.measure(1, Scene.ENERGY, 4);
        CHECKS.due("turn 141", scene.arena.turn(), 1);
        scene.state(0, Scene.REGISTER_0, -141).bullet(0, 2 + 4 * 7, 30, 1, 0, 0).count(Scene.BULLETS, 1);
        CHECKS.due("turn 142", scene.arena.turn(), TankArena.REFUSED);
        scene.state(0, Scene.REGISTER_0, -141).bullet(0, 2 + 4 * 7, 30, 1, 0, 0).count(Scene.TURNS, 141)
            .measure(0, Scene.HEAT, 0.25).state(1, Scene.WAS_HIT, 1);
        refused("one alive", s -> shotDead(s).turns(141));
    }

    /** Two that bump until both have nothing left, in turn 200. */
    private static Scene bumpedDead(Scene scene) {
        return scene.tank(10, 10, 0, Scene.SPEED, 1, 0).tank(14, 10, 0);
    }

    private static void noneAlive() {
        Scene scene = bumpedDead(new Scene(CHECKS, "bumped dead")).turns(198);
        CHECKS.due("turn 199", scene.arena.turn(), 2);
        CHECKS.due("turn 200", scene.arena.turn(), 0);
        refused("none alive", s -> bumpedDead(s).turns(200));
    }

    /** Dead tanks are there but do not count: two of three go on, one of three does not. */
    private static void twoOfThree() {
        Scene scene = new Scene(CHECKS, "two of three").tank(10, 10, 0, Scene.FIRE, 3, 0).tank(15, 10, 0).tank(30, 10, 0);
        scene.turns(54);
        CHECKS.due("turn 55", scene.arena.turn(), 2);
        CHECKS.due("turn 56", scene.arena.turn(), 2);
        // The shot of turn 62 is at 28 in turn 65 and hits tank 2; six more follow, every seventh turn.
        scene.turns(50).measure(2, Scene.ENERGY, 4);
        CHECKS.due("turn 107", scene.arena.turn(), 1);
        CHECKS.due("turn 108", scene.arena.turn(), TankArena.REFUSED);
        scene.count(Scene.TURNS, 107).count(Scene.TANKS, 3).count(Scene.LIVING, 1);
    }

    /** "answers how many tanks are alive behind it": one that dies in the turn no longer counts. */
    private static void answers() {
        for (int tanks = 2; tanks <= 4; tanks++) {
            Scene scene = new Scene(CHECKS, tanks + " there");
            for (int i = 0; i < tanks; i++) {
                scene.tank(10 + 10 * i, 10, 2);
            }
            CHECKS.due(tanks + " there: turn", scene.arena.turn(), tanks);
        }
        Scene four = new Scene(CHECKS, "four").tank(10, 10, 0, Scene.FIRE, 3, 0).tank(15, 10, 2).tank(50, 50, 0).tank(40, 50, 0);
        four.turns(54);
        CHECKS.due("four, one of which dies", four.arena.turn(), 3);
    }

    public static void main(String[] args) {
        fewEntered();
        oneAlive();
        noneAlive();
        twoOfThree();
        answers();
        CHECKS.end();
    }
}
