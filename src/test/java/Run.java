import java.util.ArrayList;
import java.util.List;
import java.util.function.ToIntFunction;

/**
 * A run of calls on a new object, each with the answer that is due. A run can be played again on
 * another new object: so all that the object has to tell can be asked for at any point, and still
 * no object is used for more calls than the document allows.
 */
final class Run {
    private static final int MOST_CALLS = 512;

    private final Due due;
    private final String name;
    private final List<ToIntFunction<ColumnIndex>> calls = new ArrayList<>();
    private final ColumnIndex object = new ColumnIndex();

    Run(Due due, String name) {
        this.due = due;
        this.name = name;
    }

    int callsMade() {
        return calls.size();
    }

    Run type(long bits, int n, int want) {
        return call("type(" + bits + ", " + n + ")", x -> x.type(bits, n), want);
    }

    /** For an n that BAD and FULL both fit. */
    Run typeRefused(long bits, int n) {
        return refused("type(" + bits + ", " + n + ")", x -> x.type(bits, n));
    }

    Run build(int want) {
        return call("build()", x -> x.build(), want);
    }

    Run size(int want) {
        return call("size()", x -> x.size(), want);
    }

    Run at(int place, int want) {
        return call("at(" + place + ")", x -> x.at(place), want);
    }

    Run suffix(int rank, int want) {
        return call("suffix(" + rank + ")", x -> x.suffix(rank), want);
    }

    Run rank(int suffix, int want) {
        return call("rank(" + suffix + ")", x -> x.rank(suffix), want);
    }

    Run column(int rank, int want) {
        return call("column(" + rank + ")", x -> x.column(rank), want);
    }

    Run common(int rank, int want) {
        return call("common(" + rank + ")", x -> x.common(rank), want);
    }

    Run moved(int rank, int want) {
        return call("moved(" + rank + ")", x -> x.moved(rank), want);
    }

    Run distinct(int want) {
        return call("distinct()", x -> x.distinct(), want);
    }

    Run repeat(int want) {
        return call("repeat()", x -> x.repeat(), want);
    }

    Run seek(int want) {
        return call("seek()", x -> x.seek(), want);
    }

    Run extend(int b, int want) {
        return call("extend(" + b + ")", x -> x.extend(b), want);
    }

    /** For a b that BAD and FULL both fit. */
    Run extendRefused(int b) {
        return refused("extend(" + b + ")", x -> x.extend(b));
    }

    Run before(int want) {
        return call("before()", x -> x.before(), want);
    }

    Run hit(int k, int want) {
        return call("hit(" + k + ")", x -> x.hit(k), want);
    }

    Run match(int p, int want) {
        return call("match(" + p + ")", x -> x.match(p), want);
    }

    Run revert(int k, int want) {
        return call("revert(" + k + ")", x -> x.revert(k), want);
    }

    private Run call(String shown, ToIntFunction<ColumnIndex> call, int want) {
        int got = play(call);
        due.same(shownHere(shown), got, want);
        return this;
    }

    private Run refused(String shown, ToIntFunction<ColumnIndex> call) {
        int got = play(call);
        due.refused(shownHere(shown), got);
        return this;
    }

    private String shownHere(String call) {
        return name + ", call " + calls.size() + ": " + call;
    }

    private int play(ToIntFunction<ColumnIndex> call) {
        if (calls.size() == MOST_CALLS) {
            throw new IllegalStateException(name + ": the test makes more than 512 calls");
        }
        calls.add(call);
        return call.applyAsInt(object);
    }

    /** Types a whole row, eight bytes by one call; how many are typed then is looked at by leaves. */
    Run typed(String row) {
        for (int i = 0; i < row.length(); i += 8) {
            String part = row.substring(i, Math.min(i + 8, row.length()));
            play(x -> x.type(Typing.bits(part), part.length()));
        }
        return this;
    }

    /** Makes a row the text, when nothing is typed. */
    Run text(String row) {
        return typed(row).build(row.length());
    }

    /** Makes a row the pattern, when nothing is typed; at how many places it stands is not looked at. */
    Run pattern(String row) {
        typed(row);
        play(x -> x.seek());
        return this;
    }

    /** Looks at all that the object has to tell after the calls so far; this object is let be. */
    Run leaves(String text, String pattern, String typed) {
        return tells(new Model(text, pattern, typed));
    }

    Run tells(Model m) {
        Run places = again("then");
        Run ranks = again("then");
        Run rows = again("then").size(m.size()).distinct(m.distinct()).repeat(m.repeat()).before(m.before());
        for (int i = -1; i <= m.size() + 1; i++) {
            places.at(i, m.at(i)).suffix(i, m.suffix(i)).rank(i, m.rank(i));
            ranks.column(i, m.column(i)).common(i, m.common(i)).moved(i, m.moved(i));
            rows.hit(i, m.hit(i));
        }
        for (int p = -1; p <= m.pattern().length() + 1; p++) {
            rows.match(p, m.match(p));
        }
        tellsTyped(m.typed());
        return this;
    }

    /** What is typed is told by what it becomes, and by the room that it leaves. */
    private void tellsTyped(String typed) {
        int count = typed.length();
        again("typed then").type(0, 1, count < 96 ? count + 1 : ColumnIndex.FULL);
        Run built = again("typed then").build(count).size(count);
        for (int place = 0; place < count; place++) {
            built.at(place, typed.charAt(place));
        }
    }

    private Run again(String what) {
        Run run = new Run(due, name + ", " + what);
        for (ToIntFunction<ColumnIndex> call : calls) {
            run.play(call);
        }
        return run;
    }
}
