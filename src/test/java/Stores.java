/** Stores for the tests, and what can be seen of one. */
final class Stores {
    static final int V0 = 20;
    static final int V1 = 21;
    static final int V2 = 22;

    private Stores() {
    }

    /** A store with these triples: graph, subject, predicate, object, again and again. */
    static Triplegarth with(int... places) {
        Triplegarth x = new Triplegarth();
        for (int i = 0; i + 3 < places.length; i += 4) {
            x.add(places[i], places[i + 1], places[i + 2], places[i + 3]);
        }
        return x;
    }

    /** A store with so many different triples with the predicates 0 to 2, over the three graphs. */
    static Triplegarth filled(int triples) {
        Triplegarth x = new Triplegarth();
        for (int i = 0; i < triples; i++) {
            x.add(i % 3, i / 12 % 8, i % 3, i % 12);
        }
        return x;
    }

    /** All rows of a query in their order, as "v0,v1,v2 " with - for none. */
    static String told(Triplegarth x, int query) {
        StringBuilder told = new StringBuilder();
        long rows = x.rows(query);
        for (int index = 0; index < rows; index++) {
            for (int variable = 0; variable < 3; variable++) {
                int term = x.row(query, index, variable);
                told.append(variable == 0 ? "" : ",").append(term < 0 ? "-" : String.valueOf(term));
            }
            told.append(' ');
        }
        return told.toString().trim();
    }

    /** A store with no limit reached: triples, rules, queries and shapes of all kinds, looked at as entailed. */
    static Triplegarth rich() {
        Triplegarth x = with(0, 0, 0, 1, 0, 1, 0, 2, 1, 2, 0, 8, 2, 2, 0, 8, 1, 7, 7, 11, 2, 3, 1, 3, 0, 4, 2, 9);
        x.addRule('t', 0, 0, 0);
        x.addRule('c', 0, 1, 5);
        x.addRule('i', 2, 3, 0);
        x.addRule('s', 7, 6, 0);
        x.pattern(3, V0, V1, V2);
        x.path(3, V0, 0, V2, true);
        x.both('u', 0, 1);
        x.both('o', 0, 1);
        x.filter(2, '!', V0, V2);
        x.single(4);
        x.addShape(3, 0, 0, 2, 3);
        x.addShape(0, 0, 7, 0, 0);
        x.setEntailed(true);
        return x;
    }

    /** A store with 60 triples, 8 rules, 20 queries and 6 shapes. */
    static Triplegarth full() {
        Triplegarth x = filled(60);
        for (int rule = 0; rule < 8; rule++) {
            x.addRule(rule % 2 == 0 ? 's' : 'c', rule % 3, (rule + 1) % 3, 3 + rule % 2);
        }
        x.pattern(0, V0, V1, V2);
        x.pattern(3, V1, 2, V0);
        while (x.single(0) < 18) {
            x.both('u', 0, 1);
        }
        x.both('m', 0, 1);
        for (int shape = 0; shape < 6; shape++) {
            x.addShape(shape % 4, shape % 3, (shape + 1) % 3, 1 + shape, 4 + shape);
        }
        return x;
    }

    /** All that can be seen of a store but its least proofs; the asking uses the store up. */
    static String picture(Triplegarth x) {
        StringBuilder picture = new StringBuilder();
        for (int graph = 0; graph < 4; graph++) {
            picture.append(x.size(graph)).append('/').append(x.entailed(graph)).append(' ');
        }
        picture.append("sum ").append(x.checksum());
        picture.append(" share ").append(Check.said(() -> x.thereShare()));
        picture.append(" mean ").append(Check.said(() -> x.meanProof()));
        picture.append("\nrows");
        for (int query = 0; query < 21; query++) {
            int q = query;
            picture.append(' ').append(Check.said(() -> x.rows(q)));
            picture.append('/').append(Check.said(() -> x.different(q)));
            picture.append('/').append(Check.said(() -> x.rowsAnew(q)));
            picture.append('/').append(Check.said(() -> x.row(q, 1, 0)));
        }
        picture.append("\nfaults ").append(x.faults());
        for (int index = 0; index < 49; index++) {
            int i = index;
            picture.append(' ').append(Check.said(() -> x.faultAt(i)));
        }
        picture.append("\nnext ").append(Check.said(() -> x.pattern(0, V0, V1, V2)));
        picture.append(' ').append(Check.said(() -> x.addShape(0, 0, 0, 0, 0)));
        picture.append(' ').append(x.setEntailed(true)).append(' ').append(x.clearRules());
        return picture.toString();
    }
}
