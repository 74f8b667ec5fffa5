import java.util.ArrayList;
import java.util.List;
import java.util.function.Supplier;

/**
 * The class as the tests use it. What an object answers behind its 512th call is free, so none is asked there: a new
 * object is brought to where the old one stood, by the same calls, and goes on in its place.
 */
public final class Index {
    static final int CALLS_AT_MOST = 512;
    /** So many calls are made again on a new object, and leave it room for as many. */
    private static final int KEPT_AT_MOST = CALLS_AT_MOST / 2;
    private static final int NONE = -6;

    private interface Call {
        int on(ConsonantIndex x);
    }

    private record Kept(Call call, boolean changed) { }

    private ConsonantIndex object = new ConsonantIndex();
    private int calls = 0;
    private final List<Kept> kept = new ArrayList<>();
    private boolean looking = false;

    /** What is asked to have a look is not asked again on a new object; what was refused just before is. */
    <T> T looking(Supplier<T> look) {
        boolean before = looking;
        looking = true;
        T seen = look.get();
        looking = before;
        return seen;
    }

    private int asked(Call call) {
        return answer(call, false);
    }

    /** A call that changes something unless it answers an error: the names, the ears, the pad, the history or a slot. */
    private int done(Call call) {
        return answer(call, true);
    }

    private int answer(Call call, boolean mayChange) {
        if (calls == CALLS_AT_MOST) beginAnew();
        calls++;
        int answer = call.on(object);
        boolean changed = mayChange && (answer >= 0 || answer == NONE);
        if (changed || !looking) keep(new Kept(call, changed));
        return answer;
    }

    /** Questions and refused calls of long ago give way, but no call that changed something. */
    private void keep(Kept made) {
        kept.add(made);
        for (int i = 0; i < kept.size() && kept.size() > KEPT_AT_MOST; i++) {
            if (!kept.get(i).changed) kept.remove(i--);
        }
    }

    private void beginAnew() {
        if (kept.size() >= CALLS_AT_MOST) throw new IllegalStateException("the test needs more calls than an object has");
        object = new ConsonantIndex();
        for (Kept made : kept) made.call.on(object);
        calls = kept.size();
    }

    public int set(int setting, int value) { return done(x -> x.set(setting, value)); }

    public int add() { return done(x -> x.add()); }

    public int drop(int name) { return done(x -> x.drop(name)); }

    public int ear(int as) { return done(x -> x.ear(as)); }

    public int hear(int ear, int letter, int kind) { return done(x -> x.hear(ear, letter, kind)); }

    public int second(int ear, int letter, int kind) { return done(x -> x.second(ear, letter, kind)); }

    public int habits(int ear, int habits) { return done(x -> x.habits(ear, habits)); }

    public int merge(int ear, int into, int from) { return done(x -> x.merge(ear, into, from)); }

    public int split(int ear) { return done(x -> x.split(ear)); }

    public int name(int name, int what) { return asked(x -> x.name(name, what)); }

    public int of(int ear, int letter, int what) { return asked(x -> x.of(ear, letter, what)); }

    public int ofEar(int ear, int what) { return asked(x -> x.ofEar(ear, what)); }

    public int code(int ear, int name, int which, int place) { return asked(x -> x.code(ear, name, which, place)); }

    public int drawer(int ear, int drawer, int order) { return asked(x -> x.drawer(ear, drawer, order)); }

    public int count(int what) { return asked(x -> x.count(what)); }

    public int alike(int ear, int one, int other) { return asked(x -> x.alike(ear, one, other)); }

    public int distance(int one, int other) { return asked(x -> x.distance(one, other)); }

    public int find(int ear, int rank, int what) { return asked(x -> x.find(ear, rank, what)); }

    public int ifMerged(int ear, int into, int from, int what) { return asked(x -> x.ifMerged(ear, into, from, what)); }

    public int bestMerger(int ear, int what) { return asked(x -> x.bestMerger(ear, what)); }

    public int quarrel(int ear, int other) { return asked(x -> x.quarrel(ear, other)); }

    public int deafest() { return asked(x -> x.deafest()); }

    public int put(long characters) { return done(x -> x.put(characters)); }

    public int wipe() { return done(x -> x.wipe()); }

    public int fault() { return asked(x -> x.fault()); }

    public int undo() { return done(x -> x.undo()); }

    public int save(int slot) { return done(x -> x.save(slot)); }

    public int restore(int slot) { return done(x -> x.restore(slot)); }
}
