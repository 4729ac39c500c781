import java.util.ArrayList;
import java.util.List;

/**
 * One call with all that can be wrong about it, tried together: of several exceptions that fit, the one that is named
 * first (IndexOutOfBoundsException, IllegalArgumentException, IllegalStateException) is thrown.
 */
final class Refusals {
    interface Call {
        void on(RecordsOffice x, int[] numbers);
    }

    private final Edges edges;
    private final Call call;
    private final int[] good;
    private final List<int[]> indexes = new ArrayList<>();
    private final List<int[]> arguments = new ArrayList<>();
    private final List<Recipe> taken = new ArrayList<>();
    private final List<Recipe> states = new ArrayList<>();

    Refusals(Edges edges, Call call, int... good) {
        this.edges = edges;
        this.call = call;
        this.good = good;
    }

    /** Values of the call's number at a place for which there is no such thing. */
    Refusals index(int place, int... values) {
        return add(indexes, place, values);
    }

    /** Values of the call's number at a place that are not as said. */
    Refusals argument(int place, int... values) {
        return add(arguments, place, values);
    }

    /** Offices in which the good numbers are taken. */
    Refusals takenIn(Recipe... recipes) {
        taken.addAll(List.of(recipes));
        return this;
    }

    /** Offices in which the good numbers can't be done as things are. */
    Refusals stateIn(Recipe... recipes) {
        states.addAll(List.of(recipes));
        return this;
    }

    private Refusals add(List<int[]> wrong, int place, int... values) {
        for (int value : values) {
            wrong.add(new int[] {place, value});
        }
        return this;
    }

    void check() {
        for (Recipe recipe : taken) {
            checkWrongNumbers(recipe);
            edges.takes(recipe, x -> call.on(x, good));
        }
        for (Recipe recipe : states) {
            checkWrongNumbers(recipe);
            edges.state(recipe, x -> call.on(x, good));
        }
    }

    private void checkWrongNumbers(Recipe recipe) {
        for (int[] index : indexes) {
            edges.index(recipe, x -> call.on(x, with(index)));
            for (int[] argument : arguments) {
                edges.index(recipe, x -> call.on(x, with(index, argument)));
            }
        }
        for (int[] argument : arguments) {
            edges.argument(recipe, x -> call.on(x, with(argument)));
        }
    }

    private int[] with(int[]... changes) {
        int[] numbers = good.clone();
        for (int[] change : changes) {
            numbers[change[0]] = change[1];
        }
        return numbers;
    }
}
