import java.util.function.Consumer;
import java.util.function.Function;
import java.util.function.Predicate;
import java.util.function.ToIntFunction;

/** Holds an object to its twin, which was made by the same calls but for one that must change nothing. */
final class Twins {
    private final Checks checks;

    Twins(Checks checks) {
        this.checks = checks;
    }

    /** The call answers false, and nothing is changed behind it. */
    void refused(State state, String call, Predicate<MatchSeeker> calling) {
        changesNothing(state, call, x -> calling.test(x) ? 1 : 0, 0);
    }

    /** The call has that answer, and nothing is changed behind it. */
    void changesNothing(State state, String call, ToIntFunction<MatchSeeker> calling, int want) {
        String told = state + ": " + call;
        checks.due(told, calling.applyAsInt(state.make()), want);
        alike("all answers after " + told, x -> {
            state.bring(x);
            calling.applyAsInt(x);
        }, state::bring);
    }

    /** What the first makes of a new object answers all as what the second makes of one. */
    void alike(String told, Consumer<MatchSeeker> first, Consumer<MatchSeeker> second) {
        for (Function<MatchSeeker, String> look : Looks.ALL) {
            checks.due(told, look(first, look), look(second, look));
        }
    }

    /** Some answer differs. */
    void differ(String told, Consumer<MatchSeeker> first, Consumer<MatchSeeker> second) {
        int unlike = 0;
        for (Function<MatchSeeker, String> look : Looks.ALL) {
            unlike += look(first, look).equals(look(second, look)) ? 0 : 1;
        }
        checks.due(told + ": some answer is another", unlike > 0, true);
    }

    private static String look(Consumer<MatchSeeker> make, Function<MatchSeeker, String> look) {
        MatchSeeker x = new MatchSeeker();
        make.accept(x);
        return look.apply(x);
    }
}
