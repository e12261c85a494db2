import java.util.function.Consumer;
import java.util.function.ToIntFunction;

/** Two houses with the same past: one of them is asked for what must be refused, and stays as the other one. */
final class Twins {
    final RailwayHouse one = new RailwayHouse();
    final RailwayHouse other = new RailwayHouse();
    private final String name;
    private String before = null;

    Twins(String name, Consumer<RailwayHouse> past) {
        this.name = name;
        past.accept(one);
        past.accept(other);
    }

    /** A call that both do, and that is answered so. */
    Twins does(String what, int due, ToIntFunction<RailwayHouse> call) {
        before = null;
        Check.due(name + ": " + what, call.applyAsInt(one), due);
        Check.due(name + ": " + what, call.applyAsInt(other), due);
        return this;
    }

    /** A call that is answered so, and behind which all is told as it was. */
    Twins refuses(String what, int due, ToIntFunction<RailwayHouse> call) {
        if (before == null) {
            before = Told.all(other);
        }
        Check.due(name + ": " + what, call.applyAsInt(one), due);
        Check.due(name + ": nothing has changed behind " + what, Told.all(one).equals(before));
        return this;
    }

    /** Nothing that was refused has left anything behind, even what comes to light later. */
    void end() {
        Check.due(name + ": all goes on as if nothing had been refused", Told.future(one).equals(Told.future(other)));
    }
}
