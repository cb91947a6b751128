import java.util.function.Consumer;
import java.util.function.ToLongFunction;

/**
 * Holds an arena that was asked for something refused against one that was not: at once, some turns
 * later, and behind a restart with a new instruction and new tanks.
 */
final class Twins {
    private static final int TURNS = 14;

    private Twins() {
    }

    static void refused(Checks checks, String call, Consumer<Scene> setUp, ToLongFunction<TankArena> made) {
        Scene quiet = new Scene(checks, call);
        Scene disturbed = new Scene(checks, call);
        setUp.accept(quiet);
        setUp.accept(disturbed);
        checks.due(call, made.applyAsLong(disturbed.arena), TankArena.REFUSED);
        checks.due(call + ", at once", disturbed.picture(), quiet.picture());
        checks.due(call + ", some turns later", later(disturbed), later(quiet));
        checks.due(call + ", behind a restart", anew(disturbed), anew(quiet));
    }

    private static String later(Scene scene) {
        StringBuilder text = new StringBuilder();
        for (int i = 0; i < TURNS; i++) {
            text.append(scene.arena.turn()).append(' ');
        }
        return text.append(scene.picture()).toString();
    }

    private static String anew(Scene scene) {
        StringBuilder text = new StringBuilder();
        text.append(scene.arena.restart()).append(' ');
        for (int tank = 0; tank < 4; tank++) {
            text.append(scene.arena.instr(tank, Scene.SET, 1, 50 + tank)).append(' ');
        }
        text.append(scene.arena.enter(2, 62, 3)).append(' ');
        text.append(scene.arena.enter(62, 2, 7)).append(' ');
        return text.append(later(scene)).toString();
    }
}
