import java.util.function.Consumer;
import java.util.function.Predicate;
import java.util.function.ToIntFunction;

/** Checks calls that change nothing: what they answer, and what can be read before and after. */
final class Quiet {
    private final Check check;
    private final String name;
    private final Consumer<TombstoneText> scene;
    private final String before;

    Quiet(Check check, String name, Consumer<TombstoneText> scene) {
        this.check = check;
        this.name = name;
        this.scene = scene;
        before = Reading.after(scene);
    }

    void due(String what, ToIntFunction<TombstoneText> call, int answer) {
        check.due(what + " (" + name + ")", call.applyAsInt(Scenes.play(scene)), answer);
        String after = Reading.after(scene.andThen(call::applyAsInt));
        check.due(what + " (" + name + ") changes nothing", after.equals(before), true);
    }

    void bad(String what, ToIntFunction<TombstoneText> call) {
        due(what, call, TombstoneText.BAD);
    }

    void isFalse(String what, Predicate<TombstoneText> call) {
        due(what, x -> call.test(x) ? 1 : 0, 0);
    }
}
