/** What the document says of changes by rows and of shapes: for each sentence with an edge, its edge. */
public final class ChangeSentenceTest {
    private static final int V0 = Stores.V0;
    private static final int V1 = Stores.V1;
    private static final int V2 = Stores.V2;
    private static final Check CHECK = new Check();

    public static void main(String[] args) {
        forEachRowATriple();
        whereAPlaceHasNoTerm();
        noNameNoTriple();
        putAsTheResultWasAhead();
        takenAsTheResultWasAhead();
        howManyAreNew();
        howManyWereThere();
        intoTheGraphThatIsTold();
        noRowsNoChange();
        notMoreThan60();
        manyNewAtOnce();
        refusedChangesNothing();
        rowsThatAreEntailed();
        atMost6Shapes();
        namesThatAreSubjects();
        leastAndGreatest();
        graphsOfShapes();
        shapesAsTriplesAreLookedAt();
        faultsByShapesThenNames();
        faultsOfNow();
        CHECK.finish("ChangeSentenceTest");
    }

    private static void due(String what, Object want, Check.Call call) {
        CHECK.due(what, want, call);
    }

    /** The triples of a graph, told by a pattern that is made for it. */
    private static void dueTriples(Triplegarth x, int graph, String want) {
        int query = x.pattern(graph, V0, V1, V2);
        due("the triples of graph " + graph, want, () -> Stores.told(x, query));
        due("how many of graph " + graph, want.isEmpty() ? 0 : want.split(" ").length, () -> x.size(graph));
    }

    /** For each row of a query, a triple is made of three places: terms, variables, the first and the last ones. */
    private static void forEachRowATriple() {
        Triplegarth x = Stores.with(0, 7, 7, 7, 0, 0, 0, 0);
        x.pattern(0, V0, V1, V2);
        due("terms alone", 1, () -> x.addRows(0, 1, 7, 7, 11));
        due("the first terms", 1, () -> x.addRows(0, 1, 0, 0, 0));
        due("variables alone", 1, () -> x.addRows(0, 1, V0, V1, V2));
        dueTriples(x, 1, "0,0,0 7,7,7 7,7,11");
        due("the variables changed for each other", 2, () -> x.addRows(0, 2, V2, V0, V1));
        dueTriples(x, 2, "0,0,0 7,7,7");
        due("mixed", 2, () -> x.addRows(0, 2, V1, 3, 10));
        due("take the first one", 1, () -> x.removeRows(0, 2, 0, 0, 0));
        due("take the last terms", 1, () -> x.removeRows(0, 1, 7, 7, 11));
        due("take mixed", 2, () -> x.removeRows(0, 2, V2, 3, 10));
        dueTriples(x, 2, "7,7,7");
        dueTriples(x, 1, "0,0,0 7,7,7");
    }

    /** Where a place has no term, none is made: at each of the three places. */
    private static void whereAPlaceHasNoTerm() {
        for (int place = 0; place < 3; place++) {
            Triplegarth x = Stores.with(0, 1, 2, 3, 1, 0, 0, 0);
            x.pattern(0, 1, 2, 3);
            x.pattern(0, 1, 2, V1);
            x.both('u', 0, 1);
            int[] some = {0, 0, 0};
            int[] none = {0, 0, 0};
            int[] made = {0, 0, 0};
            some[place] = V1;
            none[place] = V0;
            made[place] = 3;
            due("the one row with a term at " + place, 1, () -> x.addRows(2, 2, some[0], some[1], some[2]));
            due("it has the term", true, () -> x.entails(2, made[0], made[1], made[2]));
            due("no row with a term at " + place, 0, () -> x.addRows(2, 2, none[0], none[1], none[2]));
            due("no row with a term to take", 0, () -> x.removeRows(2, 1, none[0], none[1], none[2]));
            due("none was made", 1, () -> x.size(2));
            due("none was taken", 1, () -> x.size(1));
            due("take the one", 1, () -> x.removeRows(2, 2, some[0], some[1], some[2]));
        }
    }

    /** Or the subject or the predicate is no name, none is made; the object may be any term. */
    private static void noNameNoTriple() {
        for (int term = 0; term < 12; term++) {
            Triplegarth x = Stores.with(0, 5, 5, term, 1, 0, 0, 1, 1, 7, 7, 3);
            x.pattern(0, 5, 5, V2);
            int name = term < 8 ? 1 : 0;
            int t = term;
            due("told as a subject " + t, name, () -> x.addRows(0, 2, t, 0, 1));
            due("told as a predicate " + t, name, () -> x.addRows(0, 2, 6, t, 1));
            due("told as an object " + t, 1, () -> x.addRows(0, 2, 6, 6, t));
            due("taken as a subject " + t, name, () -> x.removeRows(0, 2, V2, 0, 1));
            due("taken as a predicate " + t, name, () -> x.removeRows(0, 2, 6, V2, 1));
            due("taken as an object " + t, 1, () -> x.removeRows(0, 2, 6, 6, V2));
            due("by a row as a subject " + t, name, () -> x.addRows(0, 2, V2, 0, 1));
            due("by a row as a predicate " + t, name, () -> x.addRows(0, 2, 6, V2, 1));
            due("by a row as an object " + t, 1, () -> x.addRows(0, 2, 6, 6, V2));
            due("so many", 2 * name + 1, () -> x.size(2));
            due("the others stay", 2, () -> x.size(1));
            due("all three at once", name, () -> x.addRows(0, 1, V2, V2, V2));
            due("so many", 2 + name, () -> x.size(1));
        }
    }

    /** They are put into a graph, all as the query's result was ahead: none by the triples that were just put. */
    private static void putAsTheResultWasAhead() {
        for (int turn = 0; turn < 2; turn++) {
            Triplegarth x = turn == 0 ? Stores.with(0, 0, 0, 1) : Stores.with(0, 7, 0, 6);
            x.pattern(0, V0, 0, V1);
            x.pattern(0, V1, 0, V2);
            x.both('j', 0, 1);
            int middle = turn == 0 ? 1 : 6;
            int end = turn == 0 ? 2 : 5;
            due("on to the next name", 1, () -> x.addRows(0, 0, V1, 0, end));
            due("no further", 2, () -> x.size(0));
            due("over two", 1, () -> x.addRows(2, 0, V0, 0, V2));
            due("over two again", 0, () -> x.addRows(2, 0, V0, 0, V2));
            due("three", 3, () -> x.size(0));
            due("turned round", 3, () -> x.addRows(0, 0, V1, 0, V0));
            due("turned round again", 0, () -> x.addRows(0, 0, V1, 0, V0));
            due("there", true, () -> x.entails(0, end, 0, middle));
        }
        // A row that the put triples take away still puts its own.
        Triplegarth minus = Stores.with(0, 0, 0, 1, 0, 1, 0, 2, 0, 2, 0, 0);
        minus.pattern(0, V0, 0, V1);
        minus.pattern(0, V0, 1, V2);
        minus.both('m', 0, 1);
        due("names without 1", 3, () -> minus.addRows(2, 0, V1, 1, V0));
        due("no name is without 1 now", 0L, () -> minus.rows(2));
        due("again", 0, () -> minus.addRows(2, 0, V1, 1, V0));
    }

    /** Or taken out of it, all as the query's result was ahead: those too whose rows go by the taking. */
    private static void takenAsTheResultWasAhead() {
        int[][] ways = {{V0, V1}, {V1, V2}};
        for (int[] way : ways) {
            for (int turn = 0; turn < 2; turn++) {
                Triplegarth x = new Triplegarth();
                for (int name = 0; name < 4; name++) {
                    x.add(0, turn == 0 ? name : 7 - name, 0, turn == 0 ? name + 1 : 6 - name);
                }
                x.pattern(0, V0, 0, V1);
                x.pattern(0, V1, 0, V2);
                x.both('j', 0, 1);
                due("three ways over two", 3L, () -> x.rows(2));
                due("all three at once", 3, () -> x.removeRows(2, 0, way[0], 0, way[1]));
                due("one is left", 1, () -> x.size(0));
                due("no way over two", 0, () -> x.removeRows(2, 0, way[0], 0, way[1]));
            }
        }
        Triplegarth minus = Stores.with(0, 0, 0, 1, 0, 1, 0, 2, 0, 1, 1, 2);
        minus.pattern(0, V0, 0, V1);
        minus.pattern(0, V0, 1, V2);
        minus.both('m', 0, 1);
        due("not those that come by the taking", 1, () -> minus.removeRows(2, 0, 1, 1, 2));
        due("they come now", 2L, () -> minus.rows(2));
    }

    /** How many are new: not those that are there, and each one once, however many rows make it. */
    private static void howManyAreNew() {
        Triplegarth x = Stores.with(0, 7, 0, 9, 0, 7, 0, 10, 0, 7, 0, 11, 0, 6, 0, 11, 1, 7, 1, 11);
        x.pattern(0, V0, 0, V2);
        x.both('u', 0, 0);
        x.both('j', 1, 1);
        due("one of four rows", 1, () -> x.addRows(0, 1, 5, 5, 5));
        due("two of four rows", 2, () -> x.addRows(0, 1, V0, 2, 0));
        due("three of four rows", 3, () -> x.addRows(2, 1, 4, 4, V2));
        due("three of four, one is there", 3, () -> x.addRows(1, 1, V0, 1, V2));
        due("none is new", 0, () -> x.addRows(2, 1, V0, 1, V2));
        due("all in all", 10, () -> x.size(1));
        due("new in another graph", 4, () -> x.addRows(0, 2, V0, 0, V2));
        due("none in its own", 0, () -> x.addRows(0, 0, V0, 0, V2));
    }

    /** How many were there: each one once, and in this graph. */
    private static void howManyWereThere() {
        Triplegarth x = Stores.with(0, 7, 0, 9, 0, 7, 0, 11, 0, 6, 0, 11, 1, 7, 0, 11, 1, 5, 0, 1, 2, 0, 0, 0);
        x.pattern(3, V0, 0, V2);
        x.both('u', 0, 0);
        due("one of them in graph 2", 1, () -> x.removeRows(1, 2, V0, 0, V2));
        due("none any more", 0, () -> x.removeRows(1, 2, V0, 0, V2));
        due("one by several rows", 1, () -> x.removeRows(1, 1, 7, 0, 11));
        due("the other graph has it", 4L, () -> x.rows(0));
        due("three in graph 0", 3, () -> x.removeRows(1, 0, V0, 0, V2));
        due("graph 1 has one left", 1, () -> x.size(1));
        due("graph 3 too", 1, () -> x.size(3));
        due("the last one", 1, () -> x.removeRows(1, 1, V0, 0, V2));
        due("nothing is left", 0, () -> x.size(3));
        due("no row any more", 0L, () -> x.rows(1));
    }

    private static void intoTheGraphThatIsTold() {
        for (int graph = 0; graph < 3; graph++) {
            int g = graph;
            Triplegarth x = Stores.with(0, 7, 7, 11, 1, 7, 7, 11, 2, 7, 7, 11);
            x.pattern(g, V0, V1, V2);
            due("put into " + g, 1, () -> x.addRows(0, g, 0, 0, 0));
            for (int other = 0; other < 3; other++) {
                int o = other;
                due("size of " + o, o == g ? 2 : 1, () -> x.size(o));
            }
            due("in graph 3", 2, () -> x.size(3));
            due("taken out of " + g, 2, () -> x.removeRows(0, g, V0, V1, V2));
            for (int other = 0; other < 3; other++) {
                int o = other;
                due("size of " + o, o == g ? 0 : 1, () -> x.size(o));
            }
            due("still in graph 3", 1, () -> x.size(3));
        }
    }

    private static void noRowsNoChange() {
        Triplegarth x = Stores.with(0, 7, 7, 11);
        x.pattern(1, V0, V1, V2);
        due("no row to add by", 0, () -> x.addRows(0, 1, 1, 1, 1));
        due("no row to remove by", 0, () -> x.removeRows(0, 0, 7, 7, 11));
        due("as it was", 1, () -> x.size(3));
    }

    /** Refused if there would be more than 60 triples, not if there would be 60, and none new is never refused. */
    private static void notMoreThan60() {
        for (int ahead = 56; ahead <= 60; ahead++) {
            Triplegarth x = withPredicate0(ahead);
            x.path(0, 7, 0, V0, true);
            x.path(0, V1, 0, V1, true);
            x.filter(1, '!', V1, 7);
            int size = ahead;
            boolean isOneTooMany = ahead + 1 > 60;
            boolean areTooMany = ahead + 8 > 60;
            due("8 to " + size, areTooMany ? "throws IllegalStateException" : 8, () -> x.addRows(1, 2, V1, 7, 7));
            due("1 to " + size, isOneTooMany ? "throws IllegalStateException" : 1, () -> x.addRows(0, 2, V0, 6, 6));
            due("the same again", isOneTooMany ? "throws IllegalStateException" : 0, () -> x.addRows(0, 2, V0, 6, 6));
            due("one that is there", 0, () -> x.addRows(1, 0, 0, 0, 0));
            due("none that is a triple", 0, () -> x.addRows(1, 0, 8, V1, V1));
            due("so many", isOneTooMany ? size : size + 1, () -> x.size(0) + x.size(1) + x.size(2));
        }
    }

    private static Triplegarth withPredicate0(int triples) {
        Triplegarth x = new Triplegarth();
        for (int i = 0; i < triples; i++) {
            x.add(i % 3, i / 12, 0, i % 12);
        }
        return x;
    }

    /** All or none, and only those that are new need room. */
    private static void manyNewAtOnce() {
        for (int ahead = 50; ahead <= 54; ahead++) {
            int size = ahead;
            boolean areTooMany = ahead + 8 > 60;
            String full = "throws IllegalStateException";
            Triplegarth x = withPredicate0(ahead);
            x.path(0, V1, 0, V1, true);
            due("8 to " + size, areTooMany ? full : 8, () -> x.addRows(0, 1, V1, 7, 7));
            due("all or none", areTooMany ? size : size + 8, () -> x.size(0) + x.size(1) + x.size(2));
            Triplegarth y = withPredicate0(ahead);
            y.path(0, V1, 0, V1, true);
            y.add(1, 7, 7, 7);
            due("7 to one more than " + size, areTooMany ? full : 7, () -> y.addRows(0, 1, V1, 7, 7));
            due("all or none", areTooMany ? size + 1 : size + 8, () -> y.size(0) + y.size(1) + y.size(2));
        }
        Triplegarth most = new Triplegarth();
        most.path(0, V0, 0, V0, true);
        most.path(0, V1, 0, V1, true);
        most.both('j', 0, 1);
        CHECK.dueFull("64 at once", () -> most.addRows(2, 0, V0, 3, V1));
        due("none", 0, () -> most.size(0));
        most.filter(2, '!', V1, 7);
        due("56 at once", 56, () -> most.addRows(3, 0, V0, 3, V1));
        CHECK.dueFull("8 more", () -> most.addRows(2, 0, V0, 3, V1));
        due("56", 56, () -> most.size(0));
        most.filter(2, '<', V1, 7);
        due("none of no rows", 0, () -> most.addRows(4, 1, V0, 3, V1));
        due("take 56 at once", 56, () -> most.removeRows(2, 0, V0, 3, V1));
        due("none is left", 0, () -> most.size(3));
    }

    private static void refusedChangesNothing() {
        Triplegarth x = withPredicate0(58);
        x.path(0, V1, 0, V1, true);
        x.pattern(3, V0, 7, V2);
        x.both('u', 0, 1);
        long sum = x.checksum();
        for (int turn = 0; turn < 3; turn++) {
            CHECK.dueFull("8 to 58", () -> x.addRows(0, 2, V1, 7, 7));
            due("the checksum", sum, () -> x.checksum());
            due("the size", 58, () -> x.size(0) + x.size(1) + x.size(2));
            due("rows", 8L, () -> x.rows(2));
            due("entailed", x.size(3), () -> x.entailed(3));
            CHECK.dueIllegal("no graph", () -> x.removeRows(0, 3, V1, 0, 0));
            CHECK.dueIllegal("no place", () -> x.removeRows(0, 0, V1, 0, 12));
            CHECK.dueNoIndex("no query", () -> x.removeRows(3, 0, V1, 0, 0));
            due("the checksum still", sum, () -> x.checksum());
        }
        due("two more", true, () -> x.add(2, 7, 7, 7) && x.add(2, 7, 7, 8));
    }

    /** A query's rows may be entailed: what is put is there then, what is only entailed can't be taken. */
    private static void rowsThatAreEntailed() {
        Triplegarth x = Stores.with(0, 0, 0, 1, 0, 1, 0, 7);
        x.addRule('t', 0, 0, 0);
        x.pattern(0, V0, 0, V1);
        due("as there", 0, () -> x.addRows(0, 0, V0, 0, V1));
        x.setEntailed(true);
        due("only entailed", 0, () -> x.removeRows(0, 0, 0, 0, 7));
        due("put", 1, () -> x.addRows(0, 0, V0, 0, V1));
        due("there now", 3, () -> x.size(0));
        due("take the first steps", 1, () -> x.removeRows(0, 0, 0, 0, 1));
        due("two are left", 2L, () -> x.rows(0));
        due("take all", 2, () -> x.removeRows(0, 0, V0, 0, V1));
        due("nothing is entailed", 0, () -> x.entailed(0));
    }

    /** At most 6 shapes are numbered from 0; the other predicate may be the same one. */
    private static void atMost6Shapes() {
        Triplegarth x = Stores.with(0, 7, 7, 11);
        for (int shape = 0; shape < 6; shape++) {
            int number = shape;
            due("shape " + number, number, () -> x.addShape(0, 7, 7, 0, 0));
            due("faults of " + number, number + 1, () -> x.faults());
        }
        CHECK.dueFull("shape 6", () -> x.addShape(0, 7, 7, 0, 0));
        due("six faults", 6, () -> x.faults());
        x.clearRules();
        CHECK.dueFull("rules are no shapes", () -> x.addShape(0, 7, 7, 0, 0));
    }

    /** Each name that is the subject of some triple with a predicate: the first and the last name, and no other. */
    private static void namesThatAreSubjects() {
        for (int name = 0; name < 8; name++) {
            Triplegarth x = new Triplegarth();
            int n = name;
            x.addShape(0, 7, 0, 1, 9);
            x.addShape(0, 0, 7, 1, 9);
            due("no triples", 0, () -> x.faults());
            x.add(0, n, 7, (n + 1) % 8);
            due("a subject without the other", 1, () -> x.faults());
            due("its name", n, () -> x.faultAt(0));
            CHECK.dueNoIndex("not the object", () -> x.faultAt(1));
            x.add(0, (n + 3) % 8, 6, 11);
            due("another predicate does not count", 1, () -> x.faults());
            x.add(0, n, 0, 11);
            due("the other with a number", 0, () -> x.faults());
            x.remove(0, n, 7, (n + 1) % 8);
            due("the other alone", 1, () -> x.faults());
            due("by the second shape", 10 + n, () -> x.faultAt(0));
        }
    }

    /** A least and a greatest number, 0 to 9: one less, the least, the greatest, and one more. */
    private static void leastAndGreatest() {
        int[][] bounds = {{0, 0}, {0, 9}, {9, 9}, {1, 8}, {5, 5}, {0, 1}};
        Triplegarth x = new Triplegarth();
        x.add(1, 7, 6, 3);
        for (int[] bound : bounds) {
            x.addShape(1, 6, 2, bound[0], bound[1]);
        }
        for (int objects = 0; objects <= 12; objects++) {
            int number = objects;
            if (objects > 0) {
                x.add(1, 7, 2, 12 - objects);
            }
            int faults = 0;
            for (int shape = 0; shape < 6; shape++) {
                if (objects < bounds[shape][0] || objects > bounds[shape][1]) {
                    int index = faults;
                    int want = 10 * shape + 7;
                    due("fault " + index + " with " + number, want, () -> x.faultAt(index));
                    faults++;
                }
            }
            int count = faults;
            due("faults with " + number, count, () -> x.faults());
            CHECK.dueNoIndex("no more with " + number, () -> x.faultAt(count));
        }
    }

    private static void graphsOfShapes() {
        Triplegarth x = Stores.with(0, 7, 0, 1, 1, 7, 1, 1, 2, 7, 1, 2, 2, 7, 0, 1, 1, 7, 1, 2);
        for (int graph = 0; graph < 4; graph++) {
            x.addShape(graph, 0, 1, 2, 2);
        }
        due("two in graph 3, each once", 2, () -> x.faults());
        due("graph 0 has none", 7, () -> x.faultAt(0));
        due("graph 2 has one", 27, () -> x.faultAt(1));
        x.add(0, 7, 1, 3);
        due("three in graph 3", 3, () -> x.faults());
        due("graph 3 has too many", 37, () -> x.faultAt(2));
    }

    /** Triples are looked at as in queries: by what is set, for either predicate. */
    private static void shapesAsTriplesAreLookedAt() {
        Triplegarth x = Stores.with(0, 7, 0, 8, 0, 0, 1, 9);
        x.addRule('s', 0, 2, 0);
        x.addRule('s', 1, 3, 0);
        x.addShape(0, 0, 2, 1, 1);
        x.addShape(0, 3, 1, 0, 0);
        for (int turn = 0; turn < 2; turn++) {
            due("as there", 1, () -> x.faults());
            due("7 has no 2", 7, () -> x.faultAt(0));
            x.setEntailed(true);
            due("0 has 3, and so 1", 10, () -> x.faultAt(0));
            due("as entailed", 1, () -> x.faults());
            x.setEntailed(false);
        }
        x.setEntailed(true);
        x.clearRules();
        due("without rules", 1, () -> x.faults());
        due("7 has no 2 again", 7, () -> x.faultAt(0));
    }

    /** By rising shapes, then names: 10 times the number of the shape, plus the name. */
    private static void faultsByShapesThenNames() {
        Triplegarth x = new Triplegarth();
        for (int name = 7; name >= 0; name--) {
            x.add(name % 3, name, 7, 11 - name);
        }
        for (int shape = 0; shape < 6; shape++) {
            x.addShape(3, 7, 6, 1, 1);
        }
        due("48 faults", 48, () -> x.faults());
        for (int index = 0; index < 48; index++) {
            int i = index;
            due("fault " + i, i / 8 * 10 + i % 8, () -> x.faultAt(i));
        }
        for (int off : new int[] {Integer.MIN_VALUE, -1, 48, 49, 57, Integer.MAX_VALUE}) {
            CHECK.dueNoIndex("fault " + off, () -> x.faultAt(off));
        }
        x.add(2, 3, 6, 0);
        due("one name keeps to it", 42, () -> x.faults());
        due("the next one", 4, () -> x.faultAt(3));
        due("the last one", 57, () -> x.faultAt(41));
        CHECK.dueNoIndex("no 43rd", () -> x.faultAt(42));
    }

    private static void faultsOfNow() {
        Triplegarth x = new Triplegarth();
        x.addShape(3, 0, 1, 1, 1);
        x.path(3, V0, 0, V0, true);
        due("none", 0, () -> x.faults());
        CHECK.dueNoIndex("none at 0", () -> x.faultAt(0));
        x.addRows(0, 2, V0, 0, V0);
        due("all names", 8, () -> x.faults());
        due("the last one", 7, () -> x.faultAt(7));
        x.addRows(0, 1, V0, 1, 11);
        due("none again", 0, () -> x.faults());
        x.removeRows(0, 1, 7, 1, 11);
        due("the last name", 7, () -> x.faultAt(0));
        x.removeRows(0, 2, V0, 0, V0);
        due("none", 0, () -> x.faults());
        CHECK.dueNoIndex("none at 0", () -> x.faultAt(0));
    }
}
