import java.util.Arrays;
import java.util.function.Function;
import java.util.function.Supplier;

/**
 * Each method with arguments one too small, least, greatest, and one too large, in a new store, one with room left and
 * a full one: of several exceptions the one that is documented first, and no refused call changes anything.
 */
public final class RefusalTest {
    private static final String ILLEGAL = "IllegalArgumentException";
    private static final String STATE = "IllegalStateException";
    private static final String INDEX = "IndexOutOfBoundsException";
    private static final String ELEMENT = "NoSuchElementException";
    private static final int MIN = Integer.MIN_VALUE;
    private static final int MAX = Integer.MAX_VALUE;
    private static final int[] GRAPHS = {MIN, -1, 0, 2, 3, 4, MAX};
    private static final int[] NAMES = {-1, 0, 7, 8};
    private static final int[] TERMS = {MIN, -1, 0, 11, 12, MAX};
    private static final int[] PLACES = {MIN, -1, 0, 8, 11, 12, 19, 20, 22, 23, MAX};
    private static final int[] QUERIES = {MIN, -1, 0, 5, 6, 19, 20, MAX};
    private static final Check CHECK = new Check();

    private final Supplier<Triplegarth> maker;
    private final String state;
    private final int queries;
    private final boolean isFull;
    private Triplegarth store;
    private int refused = 0;

    private RefusalTest(Supplier<Triplegarth> maker, String state, int queries, boolean isFull) {
        this.maker = maker;
        this.state = state;
        this.queries = queries;
        this.isFull = isFull;
        this.store = maker.get();
    }

    public static void main(String[] args) {
        new RefusalTest(Triplegarth::new, "new", 0, false).all();
        new RefusalTest(Stores::rich, "rich", 6, false).all();
        new RefusalTest(Stores::full, "full", 20, true).all();
        CHECK.finish("RefusalTest");
    }

    private void all() {
        triples();
        graphs();
        rules();
        patterns();
        paths();
        pairs();
        filters();
        queries();
        rows();
        changes();
        shapes();
        faults();
        compare("all");
    }

    /** The first exception whose condition holds, or null: exception, condition, again and again. */
    private static String first(Object... refusals) {
        for (int i = 0; i < refusals.length; i += 2) {
            if ((Boolean) refusals[i + 1]) {
                return (String) refusals[i];
            }
        }
        return null;
    }

    /** Calls that are refused are made of one store, the others each of a new one. */
    private void due(String refusal, Function<Triplegarth, Object> call, String method, Object... arguments) {
        String what = state + ": " + method + Arrays.toString(arguments);
        if (refusal == null) {
            Check.Call onNew = () -> call.apply(maker.get());
            CHECK.due(what + " is refused", false, () -> Check.said(onNew).startsWith("throws"));
            return;
        }
        CHECK.due(what, "throws " + refusal, () -> call.apply(store));
        refused++;
        if (refused % 100 == 0) {
            compare(what);
            store = maker.get();
        }
    }

    private void compare(String what) {
        String picture = Stores.picture(maker.get());
        String held = state + ": what was refused up to " + what + " changed nothing";
        CHECK.due(held, picture, () -> Stores.picture(store));
    }

    private static boolean in(int number, int least, int greatest) {
        return least <= number && number <= greatest;
    }

    private static boolean isPlace(int place) {
        return in(place, 0, 11) || in(place, 20, 22);
    }

    private boolean isQuery(int query) {
        return in(query, 0, queries - 1);
    }

    private void triples() {
        for (int g : GRAPHS) {
            for (int s : NAMES) {
                for (int p : NAMES) {
                    for (int o : TERMS) {
                        triple(g, s, p, o);
                    }
                }
            }
            triple(g, MIN, 0, 0);
            triple(g, MAX, 0, 0);
            triple(g, 0, MIN, 0);
            triple(g, 0, MAX, 0);
        }
    }

    private void triple(int g, int s, int p, int o) {
        boolean isTriple = in(s, 0, 7) && in(p, 0, 7) && in(o, 0, 11);
        boolean isOwn = in(g, 0, 2) && isTriple;
        boolean isSeen = in(g, 0, 3) && isTriple;
        boolean isNew = isOwn && !maker.get().remove(g, s, p, o);
        boolean isEntailed = isSeen && maker.get().entails(g, s, p, o);
        due(first(ILLEGAL, !isOwn, STATE, isNew && isFull), x -> x.add(g, s, p, o), "add", g, s, p, o);
        due(first(ILLEGAL, !isOwn), x -> x.remove(g, s, p, o), "remove", g, s, p, o);
        due(first(ILLEGAL, !isSeen), x -> x.entails(g, s, p, o), "entails", g, s, p, o);
        due(first(ILLEGAL, !isSeen, ELEMENT, !isEntailed), x -> x.leastProof(g, s, p, o), "leastProof", g, s, p, o);
    }

    private void graphs() {
        for (int g : GRAPHS) {
            due(first(ILLEGAL, !in(g, 0, 3)), x -> x.size(g), "size", g);
            due(first(ILLEGAL, !in(g, 0, 3)), x -> x.entailed(g), "entailed", g);
        }
    }

    private void rules() {
        for (char kind : new char[] {'s', 'i', 't', 'c', 'S', 'a', 'j', 0, 255, 0xffff}) {
            for (int a : new int[] {MIN, -1, 0, 7, 8, MAX}) {
                for (int b : new int[] {MIN, -1, 0, 7, 8, MAX}) {
                    for (int c : new int[] {MIN, -1, 0, 7, 8, MAX}) {
                        boolean isRule = "sitc".indexOf(kind) >= 0 && in(a, 0, 7)
                                && (kind == 't' || in(b, 0, 7)) && (kind != 'c' || in(c, 0, 7));
                        due(first(ILLEGAL, !isRule, STATE, isFull), x -> x.addRule(kind, a, b, c), "addRule",
                                kind, a, b, c);
                    }
                }
            }
        }
    }

    private void patterns() {
        for (int g : GRAPHS) {
            for (int s : PLACES) {
                for (int p : PLACES) {
                    for (int o : PLACES) {
                        boolean isPattern = in(g, 0, 3) && isPlace(s) && isPlace(p) && isPlace(o);
                        if (isPattern || isOneOff(in(g, 0, 3), isPlace(s), isPlace(p), isPlace(o))) {
                            due(first(ILLEGAL, !isPattern, STATE, isFull), x -> x.pattern(g, s, p, o), "pattern",
                                    g, s, p, o);
                        }
                    }
                }
            }
        }
    }

    private static boolean isOneOff(boolean... areRight) {
        int wrong = 0;
        for (boolean isRight : areRight) {
            wrong += isRight ? 0 : 1;
        }
        return wrong == 1 || wrong == areRight.length;
    }

    private void paths() {
        for (int g : GRAPHS) {
            for (int s : PLACES) {
                for (int p : new int[] {MIN, -1, 0, 7, 8, 11, 12, 20, 22, 23, MAX}) {
                    for (int o : PLACES) {
                        boolean isPath = in(g, 0, 3) && isPlace(s) && in(p, 0, 7) && isPlace(o);
                        if (isPath || isOneOff(in(g, 0, 3), isPlace(s), in(p, 0, 7), isPlace(o))) {
                            boolean isAny = (s + o) % 2 == 0;
                            due(first(ILLEGAL, !isPath, STATE, isFull), x -> x.path(g, s, p, o, isAny), "path",
                                    g, s, p, o, isAny);
                        }
                    }
                }
            }
        }
    }

    private void pairs() {
        for (char kind : new char[] {'j', 'o', 'm', 'u', 'J', 's', 'b', 0, 255, 0xffff}) {
            for (int a : QUERIES) {
                for (int b : QUERIES) {
                    due(first(ILLEGAL, "jomu".indexOf(kind) < 0, INDEX, !isQuery(a) || !isQuery(b), STATE, isFull),
                            x -> x.both(kind, a, b), "both", kind, a, b);
                }
            }
        }
    }

    private void filters() {
        for (int query : QUERIES) {
            for (char test : new char[] {'=', '!', '<', 'b', '>', 'B', 'j', 0, 255, 0xffff}) {
                for (int a : PLACES) {
                    for (int b : PLACES) {
                        boolean isTest = "=!<b".indexOf(test) >= 0 && isPlace(a) && (test == 'b' || isPlace(b));
                        due(first(INDEX, !isQuery(query), ILLEGAL, !isTest, STATE, isFull),
                                x -> x.filter(query, test, a, b), "filter", query, test, a, b);
                    }
                }
            }
        }
    }

    private void queries() {
        for (int query : QUERIES) {
            String refusal = first(INDEX, !isQuery(query));
            due(first(INDEX, !isQuery(query), STATE, isFull), x -> x.single(query), "single", query);
            due(refusal, x -> x.rows(query), "rows", query);
            due(refusal, x -> x.rowsAnew(query), "rowsAnew", query);
            due(refusal, x -> x.different(query), "different", query);
        }
    }

    private void rows() {
        for (int query : QUERIES) {
            int rows = isQuery(query) ? (int) maker.get().rows(query) : 0;
            for (int index : new int[] {MIN, -1, 0, rows - 1, rows, rows + 1, MAX}) {
                for (int variable : new int[] {MIN, -1, 0, 2, 3, 20, MAX}) {
                    due(first(INDEX, !isQuery(query), ILLEGAL, !in(variable, 0, 2), ELEMENT, !in(index, 0, rows - 1)),
                            x -> x.row(query, index, variable), "row", query, index, variable);
                }
            }
        }
    }

    private void changes() {
        for (int query : new int[] {-1, 0, 5, 6, 19, 20}) {
            for (int g : new int[] {-1, 0, 2, 3}) {
                for (int s : new int[] {-1, 7, 11, 12, 19, 20, 22, 23}) {
                    for (int p : new int[] {-1, 7, 11, 12, 19, 20, 22, 23}) {
                        for (int o : new int[] {-1, 7, 11, 12, 19, 20, 22, 23}) {
                            change(query, g, s, p, o);
                        }
                    }
                }
            }
        }
        change(0, MIN, MIN, MIN, MIN);
        change(0, MAX, MAX, MAX, MAX);
    }

    private void change(int query, int g, int s, int p, int o) {
        boolean isChange = in(g, 0, 2) && isPlace(s) && isPlace(p) && isPlace(o);
        boolean isTooMuch = isFull && isQuery(query) && isChange && isNewMade(query, g, s, p, o);
        due(first(INDEX, !isQuery(query), ILLEGAL, !isChange, STATE, isTooMuch),
                x -> x.addRows(query, g, s, p, o), "addRows", query, g, s, p, o);
        due(first(INDEX, !isQuery(query), ILLEGAL, !isChange),
                x -> x.removeRows(query, g, s, p, o), "removeRows", query, g, s, p, o);
    }

    /** Whether a row of the query makes a triple that is not in the graph; asked row by row. */
    private boolean isNewMade(int query, int g, int s, int p, int o) {
        Triplegarth asked = maker.get();
        int rows = (int) asked.rows(query);
        for (int index = 0; index < rows; index++) {
            int subject = termOf(asked, query, index, s);
            int predicate = termOf(asked, query, index, p);
            int object = termOf(asked, query, index, o);
            boolean isTriple = in(subject, 0, 7) && in(predicate, 0, 7) && object >= 0;
            if (isTriple && !asked.remove(g, subject, predicate, object)) {
                return true;
            }
            asked = maker.get();
        }
        return false;
    }

    private static int termOf(Triplegarth asked, int query, int index, int place) {
        return place < 20 ? place : asked.row(query, index, place - 20);
    }

    private void shapes() {
        for (int g : GRAPHS) {
            for (int p : TERMS) {
                shape(g, p, 0, 0, 0);
                shape(g, 0, p, 0, 0);
                shape(g, p, p, 0, 0);
            }
            for (int least : new int[] {MIN, -1, 0, 1, 8, 9, 10, MAX}) {
                for (int greatest : new int[] {MIN, -1, 0, 1, 8, 9, 10, MAX}) {
                    shape(g, 7, 0, least, greatest);
                }
            }
            for (int p : new int[] {7, 8}) {
                shape(g, p, 7, 9, 9);
                shape(g, 7, p, 9, 9);
            }
        }
    }

    private void shape(int g, int p, int other, int least, int greatest) {
        boolean isShape = in(g, 0, 3) && in(p, 0, 7) && in(other, 0, 7) && in(least, 0, 9) && in(greatest, 0, 9)
                && least <= greatest;
        due(first(ILLEGAL, !isShape, STATE, isFull), x -> x.addShape(g, p, other, least, greatest), "addShape",
                g, p, other, least, greatest);
    }

    private void faults() {
        int faults = maker.get().faults();
        for (int index : new int[] {MIN, -1, 0, faults - 1, faults, faults + 1, 57, MAX}) {
            due(first(INDEX, !in(index, 0, faults - 1)), x -> x.faultAt(index), "faultAt", index);
        }
        boolean isEmpty = maker.get().size(3) == 0;
        due(first("ArithmeticException", isEmpty), x -> x.thereShare(), "thereShare");
        due(first("ArithmeticException", isEmpty), x -> x.meanProof(), "meanProof");
        due(null, x -> x.faults(), "faults");
        due(null, x -> x.checksum(), "checksum");
        due(null, x -> x.isSound(), "isSound");
        due(null, x -> x.clearRules(), "clearRules");
        due(null, x -> x.setEntailed(true), "setEntailed");
    }
}
