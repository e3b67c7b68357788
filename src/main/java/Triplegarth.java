import java.util.ArrayList;
import java.util.Arrays;
import java.util.NoSuchElementException;

/** A store of triples in graphs, with rules, queries, changes by rows, and shapes. */
public final class Triplegarth {
    private static final int NAMES = 8;
    private static final int TERMS = 12;
    private static final int TRIPLES = NAMES * NAMES * TERMS;
    private static final int OWN_GRAPHS = 3;
    private static final int GRAPHS = 4;
    private static final int VARIABLES = 3;
    private static final int FIRST_VARIABLE = 20;
    private static final int MOST_TRIPLES = 60;
    private static final int MOST_RULES = 8;
    private static final int MOST_QUERIES = 20;
    private static final int MOST_SHAPES = 6;
    private static final int MOST_OBJECTS_TOLD = 9;
    private static final int MOST_TIMES = 1000000;
    private static final int NONE = -1;

    private final Graph[] graphs = new Graph[GRAPHS];
    private final ArrayList<Rule> rules = new ArrayList<Rule>();
    private final ArrayList<Query> queries = new ArrayList<Query>();
    private final ArrayList<Shape> shapes = new ArrayList<Shape>();
    // Made once and used again by each call, so that calls make no arrays.
    private final boolean[] made = new boolean[TRIPLES];
    private final int[] mates = new int[Row.ALL];
    private boolean isEntailed = false;
    // The queries below these numbers have rows that fit the triples of now; any change sets both to 0.
    private int reckoned = 0;
    private int tried = 0;

    public Triplegarth() {
        for (int graph = 0; graph < GRAPHS; graph++) {
            graphs[graph] = new Graph();
        }
    }

    // Triples and rules

    public boolean add(int graph, int subject, int predicate, int object)
            throws IllegalArgumentException, IllegalStateException {
        int triple = askedTriple(graph, OWN_GRAPHS, subject, predicate, object);
        if (graphs[graph].has(triple)) {
            return false;
        }
        if (total() >= MOST_TRIPLES) {
            throw new IllegalStateException();
        }
        put(graph, triple);
        return true;
    }

    public boolean remove(int graph, int subject, int predicate, int object) throws IllegalArgumentException {
        int triple = askedTriple(graph, OWN_GRAPHS, subject, predicate, object);
        if (!graphs[graph].has(triple)) {
            return false;
        }
        take(graph, triple);
        return true;
    }

    public int size(int graph) throws IllegalArgumentException {
        if (!isBelow(graph, GRAPHS)) {
            throw new IllegalArgumentException();
        }
        return graphs[graph].count;
    }

    public int addRule(char kind, int first, int second, int third)
            throws IllegalArgumentException, IllegalStateException {
        if (!isRule(kind, first, second, third)) {
            throw new IllegalArgumentException();
        }
        if (rules.size() >= MOST_RULES) {
            throw new IllegalStateException();
        }
        rules.add(new Rule(kind, first, second, third));
        openGraphs();
        return rules.size() - 1;
    }

    public int clearRules() {
        int count = rules.size();
        rules.clear();
        openGraphs();
        return count;
    }

    public boolean entails(int graph, int subject, int predicate, int object) throws IllegalArgumentException {
        int triple = askedTriple(graph, GRAPHS, subject, predicate, object);
        return closed(graph).proofs.has(triple);
    }

    public int leastProof(int graph, int subject, int predicate, int object)
            throws IllegalArgumentException, NoSuchElementException {
        int triple = askedTriple(graph, GRAPHS, subject, predicate, object);
        Proofs proofs = closed(graph).proofs;
        if (!proofs.has(triple)) {
            throw new NoSuchElementException();
        }
        return proofs.asInt(triple);
    }

    public int entailed(int graph) throws IllegalArgumentException {
        if (!isBelow(graph, GRAPHS)) {
            throw new IllegalArgumentException();
        }
        return closed(graph).proofs.count();
    }

    public boolean setEntailed(boolean isEntailed) {
        boolean wasEntailed = this.isEntailed;
        this.isEntailed = isEntailed;
        for (int graph = 0; graph < GRAPHS; graph++) {
            graphs[graph].isSeenEntailed = isEntailed;
        }
        if (isEntailed != wasEntailed) {
            forgetRows();
        }
        return wasEntailed;
    }

    // Queries

    public int pattern(int graph, int subject, int predicate, int object)
            throws IllegalArgumentException, IllegalStateException {
        if (!isBelow(graph, GRAPHS) || !arePlaces(subject, predicate, object)) {
            throw new IllegalArgumentException();
        }
        needRoomForQuery();
        return numbered(new Pattern(graphs[graph], subject, predicate, object));
    }

    public int path(int graph, int subject, int predicate, int object, boolean isAny)
            throws IllegalArgumentException, IllegalStateException {
        if (!isBelow(graph, GRAPHS) || !arePlaces(subject, predicate, object) || !isBelow(predicate, NAMES)) {
            throw new IllegalArgumentException();
        }
        needRoomForQuery();
        return numbered(new Path(graphs[graph], subject, predicate, object, isAny));
    }

    public int both(char kind, int first, int second)
            throws IllegalArgumentException, IndexOutOfBoundsException, IllegalStateException {
        if (kind != 'j' && kind != 'o' && kind != 'm' && kind != 'u') {
            throw new IllegalArgumentException();
        }
        Query left = askedQuery(first);
        Query right = askedQuery(second);
        needRoomForQuery();
        return numbered(new Pair(kind, left, right, mates));
    }

    public int filter(int query, char test, int first, int second)
            throws IndexOutOfBoundsException, IllegalArgumentException, IllegalStateException {
        Query asked = askedQuery(query);
        if (!isTest(test, first, second)) {
            throw new IllegalArgumentException();
        }
        needRoomForQuery();
        return numbered(new Filter(asked, test, first, second));
    }

    public int single(int query) throws IndexOutOfBoundsException, IllegalStateException {
        Query asked = askedQuery(query);
        needRoomForQuery();
        return numbered(new Single(asked));
    }

    public long rows(int query) throws IndexOutOfBoundsException {
        Query asked = askedQuery(query);
        reckonTo(query);
        return sum(asked.often);
    }

    public long rowsAnew(int query) throws IndexOutOfBoundsException {
        Query asked = askedQuery(query);
        tryTo(query);
        return sum(asked.again);
    }

    public int row(int query, int index, int variable)
            throws IndexOutOfBoundsException, IllegalArgumentException, NoSuchElementException {
        Query asked = askedQuery(query);
        if (!isBelow(variable, VARIABLES)) {
            throw new IllegalArgumentException();
        }
        reckonTo(query);
        int found = asked.at(index);
        if (found < 0) {
            throw new NoSuchElementException();
        }
        return Row.termAt(found, FIRST_VARIABLE + variable);
    }

    public int different(int query) throws IndexOutOfBoundsException {
        Query asked = askedQuery(query);
        reckonTo(query);
        return asked.kinds();
    }

    // Changes and shapes

    public int addRows(int query, int graph, int subject, int predicate, int object)
            throws IndexOutOfBoundsException, IllegalArgumentException, IllegalStateException {
        Query asked = askedQuery(query);
        if (!isBelow(graph, OWN_GRAPHS) || !arePlaces(subject, predicate, object)) {
            throw new IllegalArgumentException();
        }
        reckonTo(query);
        makeTriples(asked, subject, predicate, object);
        int fresh = madeCount(graph, false);
        if (total() + fresh > MOST_TRIPLES) {
            throw new IllegalStateException();
        }
        for (int triple = 0; triple < TRIPLES; triple++) {
            if (made[triple]) {
                put(graph, triple);
            }
        }
        return fresh;
    }

    public int removeRows(int query, int graph, int subject, int predicate, int object)
            throws IndexOutOfBoundsException, IllegalArgumentException {
        Query asked = askedQuery(query);
        if (!isBelow(graph, OWN_GRAPHS) || !arePlaces(subject, predicate, object)) {
            throw new IllegalArgumentException();
        }
        reckonTo(query);
        makeTriples(asked, subject, predicate, object);
        int gone = madeCount(graph, true);
        for (int triple = 0; triple < TRIPLES; triple++) {
            if (made[triple]) {
                take(graph, triple);
            }
        }
        return gone;
    }

    public int addShape(int graph, int predicate, int other, int least, int greatest)
            throws IllegalArgumentException, IllegalStateException {
        if (!isBelow(graph, GRAPHS) || !isBelow(predicate, NAMES) || !isBelow(other, NAMES)
                || least < 0 || greatest > MOST_OBJECTS_TOLD || greatest < least) {
            throw new IllegalArgumentException();
        }
        if (shapes.size() >= MOST_SHAPES) {
            throw new IllegalStateException();
        }
        shapes.add(new Shape(graphs[graph], predicate, other, least, greatest));
        return shapes.size() - 1;
    }

    public int faults() {
        closeSeenGraphs();
        int count = 0;
        for (int shape = 0; shape < shapes.size(); shape++) {
            for (int name = 0; name < NAMES; name++) {
                if (shapes.get(shape).isBrokenBy(name)) {
                    count++;
                }
            }
        }
        return count;
    }

    public int faultAt(int index) throws IndexOutOfBoundsException {
        closeSeenGraphs();
        int passed = 0;
        for (int shape = 0; shape < shapes.size(); shape++) {
            for (int name = 0; name < NAMES; name++) {
                if (shapes.get(shape).isBrokenBy(name)) {
                    if (passed == index) {
                        return 10 * shape + name;
                    }
                    passed++;
                }
            }
        }
        throw new IndexOutOfBoundsException();
    }

    // Figures

    public long checksum() {
        long sum = 0;
        for (int graph = 0; graph < OWN_GRAPHS; graph++) {
            for (int triple = 0; triple < TRIPLES; triple++) {
                if (graphs[graph].has(triple)) {
                    sum = 31 * sum + graph + 3 * subjectOf(triple) + 5 * predicateOf(triple) + 7 * objectOf(triple);
                }
            }
        }
        return sum;
    }

    public float thereShare() throws ArithmeticException {
        Graph all = closed(OWN_GRAPHS);
        int proven = all.proofs.count();
        if (proven <= 0) {
            throw new ArithmeticException();
        }
        return (float) all.count / (float) proven;
    }

    public double meanProof() throws ArithmeticException {
        Graph all = closed(OWN_GRAPHS);
        int proven = all.proofs.count();
        if (proven <= 0) {
            throw new ArithmeticException();
        }
        return all.proofs.sum() / (double) proven;
    }

    public boolean isSound() {
        reckonTo(queries.size() - 1);
        tryTo(queries.size() - 1);
        for (int query = 0; query < queries.size(); query++) {
            if (!queries.get(query).isSameAgain()) {
                return false;
            }
        }
        return true;
    }

    // What arguments mean

    private static boolean isBelow(int number, int bound) {
        return number >= 0 && number < bound;
    }

    private static boolean isPlace(int place) {
        return isBelow(place, TERMS) || isBelow(place - FIRST_VARIABLE, VARIABLES);
    }

    private static boolean arePlaces(int subject, int predicate, int object) {
        return isPlace(subject) && isPlace(predicate) && isPlace(object);
    }

    private static boolean isRule(char kind, int first, int second, int third) {
        if (!isBelow(first, NAMES)) {
            return false;
        }
        if (kind == 't') {
            return true;
        }
        if (kind == 'c') {
            return isBelow(second, NAMES) && isBelow(third, NAMES);
        }
        return (kind == 's' || kind == 'i') && isBelow(second, NAMES);
    }

    private static boolean isTest(char test, int first, int second) {
        if (test == 'b') {
            return isPlace(first);
        }
        return (test == '=' || test == '!' || test == '<') && isPlace(first) && isPlace(second);
    }

    /** The triples are numbered in the order of subjects, predicates and objects; what is no triple has none. */
    private static int indexOf(int subject, int predicate, int object) {
        boolean isTriple = subject >= 0 && subject < NAMES && predicate >= 0 && predicate < NAMES
                && object >= 0 && object < TERMS;
        return isTriple ? (subject * NAMES + predicate) * TERMS + object : NONE;
    }

    private static int askedTriple(int graph, int graphs, int subject, int predicate, int object) {
        int triple = indexOf(subject, predicate, object);
        if (!isBelow(graph, graphs) || triple < 0) {
            throw new IllegalArgumentException();
        }
        return triple;
    }

    private static int subjectOf(int triple) {
        return triple / (NAMES * TERMS);
    }

    private static int predicateOf(int triple) {
        return triple / TERMS % NAMES;
    }

    private static int objectOf(int triple) {
        return triple % TERMS;
    }

    private Query askedQuery(int number) {
        if (!isBelow(number, queries.size())) {
            throw new IndexOutOfBoundsException();
        }
        return queries.get(number);
    }

    // Asked ahead of the making, so that a call that is refused makes no rows.
    private void needRoomForQuery() {
        if (queries.size() >= MOST_QUERIES) {
            throw new IllegalStateException();
        }
    }

    private static long sum(int[] numbers) {
        long sum = 0;
        for (int number : numbers) {
            sum += number;
        }
        return sum;
    }

    // What changes the state

    private void put(int graph, int triple) {
        graphs[graph].put(triple);
        graphs[OWN_GRAPHS].put(triple);
        forgetRows();
    }

    private void take(int graph, int triple) {
        graphs[graph].take(triple);
        boolean isLeft = false;
        for (int other = 0; other < OWN_GRAPHS; other++) {
            isLeft = isLeft || graphs[other].has(triple);
        }
        if (!isLeft) {
            graphs[OWN_GRAPHS].take(triple);
        }
        forgetRows();
    }

    private int total() {
        int total = 0;
        for (int graph = 0; graph < OWN_GRAPHS; graph++) {
            total += graphs[graph].count;
        }
        return total;
    }

    private int numbered(Query query) {
        queries.add(query);
        return queries.size() - 1;
    }

    private void makeTriples(Query query, int subject, int predicate, int object) {
        for (int triple = 0; triple < TRIPLES; triple++) {
            made[triple] = false;
        }
        for (int row = 0; row < Row.ALL; row++) {
            if (query.often[row] > 0) {
                int triple = indexOf(Row.termAt(row, subject), Row.termAt(row, predicate), Row.termAt(row, object));
                if (isBelow(triple, TRIPLES)) {
                    made[triple] = true;
                }
            }
        }
    }

    private int madeCount(int graph, boolean isThere) {
        int count = 0;
        for (int triple = 0; triple < TRIPLES; triple++) {
            if (made[triple] && graphs[graph].has(triple) == isThere) {
                count++;
            }
        }
        return count;
    }

    // What is reckoned only when it is asked for

    private void forgetRows() {
        reckoned = 0;
        tried = 0;
    }

    private void openGraphs() {
        for (int graph = 0; graph < GRAPHS; graph++) {
            graphs[graph].isClosed = false;
        }
        forgetRows();
    }

    private Graph closed(int graph) {
        graphs[graph].close(rules);
        return graphs[graph];
    }

    private void closeSeenGraphs() {
        for (int graph = 0; isEntailed && graph < GRAPHS; graph++) {
            graphs[graph].close(rules);
        }
    }

    private void reckonTo(int query) {
        closeSeenGraphs();
        // By rising numbers, since a query is made of lower ones.
        for (int number = reckoned; number <= query && number < queries.size(); number++) {
            queries.get(number).clear();
            queries.get(number).gather();
            reckoned = number + 1;
        }
    }

    private void tryTo(int query) {
        closeSeenGraphs();
        for (int number = tried; number <= query && number < queries.size(); number++) {
            queries.get(number).tryAll();
            tried = number + 1;
        }
    }

    /** The triples of one graph, and what follows from them. */
    private static final class Graph {
        final boolean[] there = new boolean[TRIPLES];
        // Right only while the graph is closed.
        final Proofs proofs = new Proofs();
        int count = 0;
        boolean isClosed = false;
        boolean isSeenEntailed = false;

        boolean has(int triple) {
            return isBelow(triple, TRIPLES) && there[triple];
        }

        void put(int triple) {
            if (isBelow(triple, TRIPLES) && !there[triple]) {
                there[triple] = true;
                count++;
                isClosed = false;
            }
        }

        void take(int triple) {
            if (isBelow(triple, TRIPLES) && there[triple]) {
                there[triple] = false;
                count--;
                isClosed = false;
            }
        }

        boolean sees(int triple) {
            return isSeenEntailed ? proofs.has(triple) : has(triple);
        }

        /** The objects of a subject and a predicate, as the bits of a number. */
        int objectsOf(int subject, int predicate) {
            int objects = 0;
            for (int object = 0; object < TERMS; object++) {
                if (sees(indexOf(subject, predicate, object))) {
                    objects |= 1 << object;
                }
            }
            return objects;
        }

        void close(ArrayList<Rule> rules) {
            if (isClosed) {
                return;
            }
            proofs.begin(there);
            // Each round settles at least the smallest proof that was not settled yet, so there are no more rounds
            // with a change than triples.
            boolean isLowered = true;
            for (int round = 0; isLowered && round <= TRIPLES; round++) {
                isLowered = false;
                for (int triple = 0; triple < TRIPLES; triple++) {
                    for (int rule = 0; rule < rules.size(); rule++) {
                        isLowered |= rules.get(rule).lowerFrom(triple, proofs);
                    }
                }
            }
            isClosed = true;
        }
    }

    /**
     * The least proofs of the triples of a graph so far. They have no greatest one: by each rule a proof may be twice
     * another one, so a proof is kept in parts of 62 bits, the lowest one first, as many as the longest proof needs.
     */
    private static final class Proofs {
        static final int BITS = 62;
        static final long FULL_PART = (1L << BITS) - 1;
        // A triple that is proven anew has at most twice the greatest proof so far, and the triples that are there
        // have 1: so no proof has more bits than there are triples, and their sum few more.
        static final int MOST_PARTS = TRIPLES / BITS + 2;

        // The lowest parts of all triples, then the next ones; all 0 for a triple that is not proven.
        long[] parts = new long[TRIPLES];
        int width = 1;
        final long[] total = new long[MOST_PARTS];

        void begin(boolean[] there) {
            Arrays.fill(parts, 0);
            width = 1;
            for (int triple = 0; triple < there.length && triple < parts.length; triple++) {
                parts[triple] = there[triple] ? 1 : 0;
            }
        }

        long part(int triple, int part) {
            int index = part * TRIPLES + triple;
            return triple >= 0 && triple < TRIPLES && index >= 0 && index < parts.length ? parts[index] : 0;
        }

        boolean has(int triple) {
            for (int index = triple; isBelow(triple, TRIPLES) && index < parts.length; index += TRIPLES) {
                if (parts[index] != 0) {
                    return true;
                }
            }
            return false;
        }

        int count() {
            int count = 0;
            for (int triple = 0; triple < TRIPLES; triple++) {
                if (has(triple)) {
                    count++;
                }
            }
            return count;
        }

        /** Takes the proofs of one and the other, or of one and none, together for a triple, if they are less. */
        boolean offer(int triple, int one, int other) {
            if (!isBelow(triple, TRIPLES)) {
                return false;
            }
            boolean isProven = false;
            boolean isLess = false;
            long carried = 0;
            for (int part = 0; part < width && part < MOST_PARTS; part++) {
                long sum = part(one, part) + part(other, part) + carried;
                long before = part(triple, part);
                total[part] = sum & FULL_PART;
                carried = sum >>> BITS;
                isProven |= before != 0;
                // The highest part that differs tells.
                isLess = total[part] == before ? isLess : total[part] < before;
            }
            boolean isTaken = isProven ? isLess && carried == 0 : carried == 0 || widen(carried);
            for (int part = 0; isTaken && part < width && part < MOST_PARTS; part++) {
                int index = part * TRIPLES + triple;
                if (index < parts.length) {
                    parts[index] = total[part];
                }
            }
            return isTaken;
        }

        boolean widen(long carried) {
            if (width >= MOST_PARTS) {
                return false;
            }
            total[width] = carried;
            width++;
            if (parts.length < width * TRIPLES) {
                parts = Arrays.copyOf(parts, width * TRIPLES);
            }
            return true;
        }

        /** The proof of a triple; one above all ints is told as the greatest int. */
        int asInt(int triple) {
            for (int part = 1; part < width; part++) {
                if (part(triple, part) != 0) {
                    return Integer.MAX_VALUE;
                }
            }
            return (int) Math.min(part(triple, 0), (long) Integer.MAX_VALUE);
        }

        double sum() {
            Arrays.fill(total, 0);
            for (int triple = 0; triple < TRIPLES; triple++) {
                long carried = 0;
                for (int part = 0; part < MOST_PARTS; part++) {
                    long sum = total[part] + part(triple, part) + carried;
                    total[part] = sum & FULL_PART;
                    carried = sum >>> BITS;
                }
            }
            return totalAsDouble();
        }

        /** Rounds once: behind the first 62 bits only whether any bit is set makes a difference. */
        double totalAsDouble() {
            long lead = 0;
            long isMore = 0;
            int behind = 0;
            for (int part = MOST_PARTS - 1; part >= 0; part--) {
                for (int bit = BITS - 1; bit >= 0; bit--) {
                    long digit = total[part] >> bit & 1;
                    if (lead <= FULL_PART / 2) {
                        lead = 2 * lead + digit;
                    } else {
                        isMore |= digit;
                        behind++;
                    }
                }
            }
            double value = (double) (lead | isMore);
            for (int doubled = 0; doubled < behind; doubled++) {
                value = 2.0 * value;
            }
            return value;
        }
    }

    /** A rule; 't' is kept as a 'c' whose predicates are all the same. */
    private static final class Rule {
        final char kind;
        final int first;
        final int second;
        final int third;

        Rule(char kind, int first, int second, int third) {
            this.kind = kind;
            this.first = first;
            this.second = kind == 't' ? first : second;
            this.third = kind == 't' ? first : third;
        }

        /** Lowers the proofs of what follows from a triple; by 't' and 'c' with another triple behind it. */
        boolean lowerFrom(int triple, Proofs proofs) {
            if (predicateOf(triple) != first || !proofs.has(triple)) {
                return false;
            }
            int subject = subjectOf(triple);
            int object = objectOf(triple);
            if (kind == 's') {
                return proofs.offer(indexOf(subject, second, object), triple, NONE);
            }
            if (kind == 'i') {
                return proofs.offer(indexOf(object, second, subject), triple, NONE);
            }
            boolean isLowered = false;
            for (int end = 0; end < TERMS; end++) {
                int behind = indexOf(object, second, end);
                if (proofs.has(behind)) {
                    isLowered |= proofs.offer(indexOf(subject, third, end), triple, behind);
                }
            }
            return isLowered;
        }
    }

    /** A shape. */
    private static final class Shape {
        final Graph graph;
        final int predicate;
        final int other;
        final int least;
        final int greatest;

        Shape(Graph graph, int predicate, int other, int least, int greatest) {
            this.graph = graph;
            this.predicate = predicate;
            this.other = other;
            this.least = least;
            this.greatest = greatest;
        }

        boolean isBrokenBy(int name) {
            if (graph.objectsOf(name, predicate) == 0) {
                return false;
            }
            int objects = Integer.bitCount(graph.objectsOf(name, other));
            return objects < least || objects > greatest;
        }
    }

    /**
     * Rows are numbers: a digit to the base 13 for each variable, the variable 0 foremost, 0 for none and
     * otherwise the term plus 1. So rising numbers are the order of rows.
     */
    private static final class Row {
        static final int BASE = TERMS + 1;
        static final int ALL = BASE * BASE * BASE;

        static int digit(int row, int variable) {
            if (variable == 0) {
                return row / (BASE * BASE);
            }
            return variable == 1 ? row / BASE % BASE : row % BASE;
        }

        static int of(int first, int second, int third) {
            return (first * BASE + second) * BASE + third;
        }

        static int termAt(int row, int place) {
            return place < FIRST_VARIABLE ? place : digit(row, place - FIRST_VARIABLE) - 1;
        }

        /** The row with one more place told, or none if the place can't have the term. */
        static int with(int row, int place, int term) {
            if (row < 0 || term < 0) {
                return NONE;
            }
            if (place < FIRST_VARIABLE) {
                return place == term ? row : NONE;
            }
            int variable = place - FIRST_VARIABLE;
            int told = digit(row, variable) - 1;
            if (told >= 0) {
                return told == term ? row : NONE;
            }
            int weight = variable == 0 ? BASE * BASE : variable == 1 ? BASE : 1;
            return row + (term + 1) * weight;
        }

        /** Right for two rows that go together: where both digits are told, they are the same. */
        static int joined(int one, int other) {
            return of(Math.max(digit(one, 0), digit(other, 0)), Math.max(digit(one, 1), digit(other, 1)),
                    Math.max(digit(one, 2), digit(other, 2)));
        }

        static boolean isSharing(int one, int other) {
            for (int variable = 0; variable < VARIABLES; variable++) {
                if (digit(one, variable) > 0 && digit(other, variable) > 0) {
                    return true;
                }
            }
            return false;
        }

        /**
         * Puts the rows that go together with a row into the room, and answers how many they are. Over all rows
         * these are 37 times 37 times 37, far fewer than all pairs of rows.
         */
        static int matesOf(int row, int[] room) {
            int count = 0;
            int first = digit(row, 0);
            int second = digit(row, 1);
            int third = digit(row, 2);
            for (int i = 0; i < choices(first); i++) {
                for (int j = 0; j < choices(second); j++) {
                    for (int k = 0; k < choices(third) && count < room.length; k++) {
                        room[count] = of(choice(first, i), choice(second, j), choice(third, k));
                        count++;
                    }
                }
            }
            return count;
        }

        static int choices(int digit) {
            return digit == 0 ? BASE : 2;
        }

        static int choice(int digit, int index) {
            return digit == 0 ? index : index * digit;
        }
    }

    /** A query, with how often each row is there, found in two ways. */
    private abstract static class Query {
        final int[] often = new int[Row.ALL];
        final int[] again = new int[Row.ALL];

        /** Adds up the rows that the parts make; often is empty ahead. */
        abstract void gather();

        /** How often one row is there, reckoned back from the row to the parts. */
        abstract long timesOf(int row);

        final void clear() {
            Arrays.fill(often, 0);
        }

        final void tryAll() {
            for (int row = 0; row < Row.ALL; row++) {
                again[row] = (int) Math.min(timesOf(row), (long) MOST_TIMES);
            }
        }

        final void gain(int row, long times) {
            if (isBelow(row, Row.ALL)) {
                often[row] = (int) Math.min(often[row] + times, (long) MOST_TIMES);
            }
        }

        final int timesAgain(int row) {
            return isBelow(row, Row.ALL) ? again[row] : 0;
        }

        final int kinds() {
            int kinds = 0;
            for (int times : often) {
                if (times > 0) {
                    kinds++;
                }
            }
            return kinds;
        }

        final int at(int index) {
            if (index < 0) {
                return NONE;
            }
            long passed = 0;
            for (int row = 0; row < Row.ALL; row++) {
                passed += often[row];
                if (passed > index) {
                    return row;
                }
            }
            return NONE;
        }

        final boolean isSameAgain() {
            for (int row = 0; row < Row.ALL; row++) {
                if (often[row] != again[row]) {
                    return false;
                }
            }
            return true;
        }
    }

    /** A pattern. */
    private static final class Pattern extends Query {
        final Graph graph;
        final int subject;
        final int predicate;
        final int object;

        Pattern(Graph graph, int subject, int predicate, int object) {
            this.graph = graph;
            this.subject = subject;
            this.predicate = predicate;
            this.object = object;
        }

        void gather() {
            for (int triple = 0; triple < TRIPLES; triple++) {
                if (graph.sees(triple)) {
                    gain(rowOf(subjectOf(triple), predicateOf(triple), objectOf(triple)), 1);
                }
            }
        }

        long timesOf(int row) {
            int subjectTold = Row.termAt(row, subject);
            int predicateTold = Row.termAt(row, predicate);
            int objectTold = Row.termAt(row, object);
            // A row that tells more than the places is not made by the triple that fits them.
            boolean isMade = rowOf(subjectTold, predicateTold, objectTold) == row;
            return isMade && graph.sees(indexOf(subjectTold, predicateTold, objectTold)) ? 1 : 0;
        }

        int rowOf(int subjectTold, int predicateTold, int objectTold) {
            return Row.with(Row.with(Row.with(0, subject, subjectTold), predicate, predicateTold), object, objectTold);
        }
    }

    /** A path. */
    private static final class Path extends Query {
        final Graph graph;
        final int subject;
        final int predicate;
        final int object;
        final boolean isAny;
        final int[] ends = new int[NAMES];

        Path(Graph graph, int subject, int predicate, int object, boolean isAny) {
            this.graph = graph;
            this.subject = subject;
            this.predicate = predicate;
            this.object = object;
            this.isAny = isAny;
        }

        void gather() {
            findEnds();
            for (int from = 0; from < NAMES; from++) {
                int reached = isAny ? ends[from] | 1 << from : ends[from];
                for (int to = 0; to < TERMS; to++) {
                    if ((reached >> to & 1) != 0) {
                        gain(rowOf(from, to), 1);
                    }
                }
            }
        }

        void findEnds() {
            for (int from = 0; from < NAMES; from++) {
                ends[from] = graph.objectsOf(from, predicate);
            }
            for (int middle = 0; middle < NAMES; middle++) {
                for (int from = 0; from < NAMES; from++) {
                    if ((ends[from] >> middle & 1) != 0) {
                        ends[from] |= ends[middle];
                    }
                }
            }
        }

        long timesOf(int row) {
            int from = Row.termAt(row, subject);
            int to = Row.termAt(row, object);
            if (!isBelow(from, NAMES) || rowOf(from, to) != row) {
                return 0;
            }
            if (isAny && from == to) {
                return 1;
            }
            int reached = graph.objectsOf(from, predicate);
            for (int step = 1; step < NAMES; step++) {
                int next = reached;
                for (int middle = 0; middle < NAMES; middle++) {
                    if ((reached >> middle & 1) != 0) {
                        next |= graph.objectsOf(middle, predicate);
                    }
                }
                reached = next;
            }
            return reached >> to & 1;
        }

        int rowOf(int from, int to) {
            return Row.with(Row.with(0, subject, from), object, to);
        }
    }

    /** A join, an optional, a minus or a union. */
    private static final class Pair extends Query {
        final char kind;
        final Query first;
        final Query second;
        final int[] mates;

        Pair(char kind, Query first, Query second, int[] mates) {
            this.kind = kind;
            this.first = first;
            this.second = second;
            this.mates = mates;
        }

        void gather() {
            for (int row = 0; row < Row.ALL; row++) {
                if (kind == 'u') {
                    gain(row, (long) first.often[row] + second.often[row]);
                } else if (first.often[row] > 0) {
                    gatherFrom(row);
                }
            }
        }

        void gatherFrom(int row) {
            if (kind != 'm') {
                gainMade(row);
            }
            if (kind != 'j' && !isMet(second.often, row)) {
                gain(row, first.often[row]);
            }
        }

        void gainMade(int row) {
            int count = Row.matesOf(row, mates);
            for (int i = 0; i < count && i < mates.length; i++) {
                int mate = mates[i];
                if (isBelow(mate, Row.ALL) && second.often[mate] > 0) {
                    gain(Row.joined(row, mate), (long) first.often[row] * second.often[mate]);
                }
            }
        }

        /** Whether some row that is there goes together with this one, for a minus with a variable in common. */
        boolean isMet(int[] times, int row) {
            int count = Row.matesOf(row, mates);
            for (int i = 0; i < count && i < mates.length; i++) {
                int mate = mates[i];
                if (isBelow(mate, times.length) && times[mate] > 0 && (kind != 'm' || Row.isSharing(row, mate))) {
                    return true;
                }
            }
            return false;
        }

        long timesOf(int row) {
            if (kind == 'u') {
                return (long) first.again[row] + second.again[row];
            }
            long times = kind == 'm' ? 0 : timesMade(row);
            if (kind != 'j' && first.again[row] > 0 && !isMet(second.again, row)) {
                times += first.again[row];
            }
            return times;
        }

        /** Each term of the row comes from the first query, from the second one, or from both. */
        long timesMade(int row) {
            long times = 0;
            int one = Row.digit(row, 0);
            int two = Row.digit(row, 1);
            int three = Row.digit(row, 2);
            for (int i = 0; i < origins(one); i++) {
                for (int j = 0; j < origins(two); j++) {
                    for (int k = 0; k < origins(three); k++) {
                        int left = Row.of(fromFirst(one, i), fromFirst(two, j), fromFirst(three, k));
                        if (isBelow(left, Row.ALL) && first.again[left] > 0) {
                            int right = Row.of(fromSecond(one, i), fromSecond(two, j), fromSecond(three, k));
                            times += (long) first.again[left] * second.timesAgain(right);
                        }
                    }
                }
            }
            return times;
        }

        static int origins(int digit) {
            return digit == 0 ? 1 : 3;
        }

        static int fromFirst(int digit, int origin) {
            return origin == 1 ? 0 : digit;
        }

        static int fromSecond(int digit, int origin) {
            return origin == 0 ? 0 : digit;
        }
    }

    /** A filter. */
    private static final class Filter extends Query {
        final Query query;
        final char test;
        final int first;
        final int second;

        Filter(Query query, char test, int first, int second) {
            this.query = query;
            this.test = test;
            this.first = first;
            this.second = second;
        }

        void gather() {
            for (int row = 0; row < Row.ALL; row++) {
                if (query.often[row] > 0 && isKept(row)) {
                    gain(row, query.often[row]);
                }
            }
        }

        long timesOf(int row) {
            return isKept(row) ? query.again[row] : 0;
        }

        boolean isKept(int row) {
            int one = Row.termAt(row, first);
            if (test == 'b') {
                return one >= 0;
            }
            int other = Row.termAt(row, second);
            if (one < 0 || other < 0) {
                return false;
            }
            if (test == '<') {
                return one >= NAMES && other >= NAMES && one < other;
            }
            return (one == other) == (test == '=');
        }
    }

    /** A single. */
    private static final class Single extends Query {
        final Query query;

        Single(Query query) {
            this.query = query;
        }

        void gather() {
            for (int row = 0; row < Row.ALL; row++) {
                if (query.often[row] > 0) {
                    gain(row, 1);
                }
            }
        }

        long timesOf(int row) {
            return query.again[row] > 0 ? 1 : 0;
        }
    }
}
