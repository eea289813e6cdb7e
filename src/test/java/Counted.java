/** A drawer that is used for at most 512 calls: what later calls answer is free, so that no test may ask them. */
final class Counted {
    static final int MOST_CALLS = 512;

    private final ServiceDrawer drawer = new ServiceDrawer();
    private int calls = 0;

    private ServiceDrawer next() {
        calls++;
        if (calls > MOST_CALLS) {
            throw new AssertionError("a test asks one object more than " + MOST_CALLS + " calls");
        }
        return drawer;
    }

    int calls() {
        return calls;
    }

    int draw(int seed, int size) {
        return next().draw(seed, size);
    }

    int part(int part, int what) {
        return next().part(part, what);
    }

    void leave(int part, boolean out) {
        next().leave(part, out);
    }

    boolean holds(int verdict) {
        return next().holds(verdict);
    }

    int way(int unit, int call) {
        return next().way(unit, call);
    }

    int shrink(int verdict) {
        return next().shrink(verdict);
    }

    int find(int verdict, int seed, int size, int n) {
        return next().find(verdict, seed, size, n);
    }

    int print() {
        return next().print();
    }

    int at(int i) {
        return next().at(i);
    }

    int sign(long bytes, int n) {
        return next().sign(bytes, n);
    }

    int check() {
        return next().check();
    }

    int count(int what) {
        return next().count(what);
    }
}
