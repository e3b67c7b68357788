import java.util.Arrays;

/** What the document says of queries and their rows: for each sentence with an edge, its edge. */
public final class QuerySentenceTest {
    private static final int V0 = Stores.V0;
    private static final int V1 = Stores.V1;
    private static final int V2 = Stores.V2;
    private static final Check CHECK = new Check();

    public static void main(String[] args) {
        aRowGivesSomeOfThemTerms();
        countsAMillionAtMost();
        aMillionForEachRow();
        aMillionInLaterQueries();
        moreRowsThanAnInt();
        twoRowsGoTogether();
        atMost20Queries();
        ofLowerNumbers();
        asIsSet();
        patternOfEachTriple();
        patternOfTerms();
        patternOfTheSameVariable();
        pathOfOneOrMore();
        pathOfLength();
        pathOnce();
        pathOfEachNameWithItself();
        pathPlaces();
        pathAsEntailed();
        joinAsProducts();
        optionalOfNone();
        minusInCommon();
        unionOfBoth();
        filterByTheSameTerm();
        filterByWorth();
        filterByHavingATerm();
        filterOfNone();
        filterOfNoMeaningIsNotLookedAt();
        singleOnce();
        order();
        rowOfNoSuchIndex();
        differentRows();
        rowsOfNow();
        soundAlways();
        CHECK.finish("QuerySentenceTest");
    }

    private static void due(String what, Object want, Check.Call call) {
        CHECK.due(what, want, call);
    }

    /** All rows, and as many of them by rows, by rowsAnew, and by different. */
    private static void dueRows(Triplegarth x, int query, String want) {
        String[] rows = want.isEmpty() ? new String[0] : want.split(" ");
        due("rows of query " + query, want, () -> Stores.told(x, query));
        due("how many of query " + query, (long) rows.length, () -> x.rows(query));
        due("anew of query " + query, (long) rows.length, () -> x.rowsAnew(query));
        int different = (int) Arrays.stream(rows).distinct().count();
        due("different of query " + query, different, () -> x.different(query));
        CHECK.dueNoElement("behind query " + query, () -> x.row(query, rows.length, 0));
        due("sound with query " + query, true, () -> x.isSound());
    }

    private static void dueCount(Triplegarth x, int query, long rows, int different) {
        due("rows of query " + query, rows, () -> x.rows(query));
        due("anew of query " + query, rows, () -> x.rowsAnew(query));
        due("different of query " + query, different, () -> x.different(query));
    }

    /** A row gives some of the variables 0, 1 and 2 terms; others have none, which is -1. */
    private static void aRowGivesSomeOfThemTerms() {
        Triplegarth x = Stores.with(0, 0, 0, 0, 0, 7, 7, 11);
        x.pattern(0, V0, V1, V2);
        dueRows(x, 0, "0,0,0 7,7,11");
        x.pattern(0, 7, V1, 11);
        dueRows(x, 1, "-,7,-");
        x.pattern(0, 0, 0, V2);
        dueRows(x, 2, "-,-,0");
        x.pattern(0, V0, 7, V0);
        dueRows(x, 3, "");
        x.pattern(0, V0, 7, 11);
        dueRows(x, 4, "7,-,-");
        for (int variable = 0; variable < 3; variable++) {
            int v = variable;
            due("has a term or none", v == 0 ? 7 : -1, () -> x.row(4, 0, v));
        }
    }

    /** Makes the empty row of query 0 as often as 999999 times and 1000000 times; answers both numbers. */
    private static int[] millions(Triplegarth x) {
        int one = x.pattern(0, 0, 0, 1);
        int two = x.both('u', one, one);
        int three = x.both('u', two, one);
        int five = x.both('u', three, two);
        int ten = x.both('u', five, five);
        int hundred = x.both('j', ten, ten);
        int thousand = x.both('j', hundred, ten);
        int nine = x.both('j', three, three);
        int twentySeven = x.both('j', nine, three);
        int thirtySeven = x.both('u', twentySeven, ten);
        int less = x.both('j', twentySeven, thirtySeven);
        int more = x.both('u', thousand, one);
        return new int[] {x.both('j', less, more), x.both('j', thousand, thousand), more, thousand, one, two};
    }

    /** A number above 1000000 counts as 1000000. */
    private static void countsAMillionAtMost() {
        Triplegarth x = Stores.with(0, 0, 0, 1);
        int[] many = millions(x);
        dueCount(x, many[0], 999999, 1);
        dueCount(x, many[1], 1000000, 1);
        dueCount(x, many[2], 1001, 1);
        dueCount(x, x.both('u', many[0], many[4]), 1000000, 1);
        dueCount(x, x.both('u', many[0], many[5]), 1000000, 1);
        dueCount(x, x.both('u', many[4], many[1]), 1000000, 1);
        dueCount(x, x.both('j', many[2], many[3]), 1000000, 1);
        dueCount(x, x.both('o', many[1], many[1]), 1000000, 1);
        int last = x.both('j', many[1], many[0]);
        dueCount(x, last, 1000000, 1);
        due("the last of a million", -1, () -> x.row(last, 999999, 2));
        CHECK.dueNoElement("one more than a million", () -> x.row(last, 1000000, 2));
        due("the last of one less", -1, () -> x.row(many[0], 999998, 2));
        CHECK.dueNoElement("the millionth of one less", () -> x.row(many[0], 999999, 2));
        due("sound", true, () -> x.isSound());
    }

    /** Each row counts so by itself; a row that is made in several ways counts their sum. */
    private static void aMillionForEachRow() {
        Triplegarth x = Stores.with(0, 0, 0, 1, 0, 0, 0, 2, 0, 0, 0, 3);
        int[] many = millions(x);
        int three = x.pattern(0, V0, 0, V2);
        int each = x.both('j', three, many[1]);
        dueCount(x, each, 3000000, 3);
        int threeAndAMillion = x.both('u', three, many[0]);
        dueCount(x, threeAndAMillion, 1000002, 4);
        int union = x.both('u', threeAndAMillion, each);
        dueCount(x, union, 3999999, 4);
        due("the last empty row", -1, () -> x.row(union, 999998, 2));
        due("the first of the next row", 1, () -> x.row(union, 999999, 2));
        due("the last of the next row", 1, () -> x.row(union, 1999998, 2));
        due("the first of row 2", 2, () -> x.row(union, 1999999, 2));
        due("the last one", 3, () -> x.row(union, 3999998, 2));
        // The row with 1 is made with the empty row, by either side, and with itself.
        dueCount(x, x.both('j', union, union), 4000000, 4);
    }

    /** What counts as 1000000 does so in what is made of it. */
    private static void aMillionInLaterQueries() {
        Triplegarth x = Stores.with(0, 0, 0, 1, 0, 7, 7, 11);
        int million = million(x, x.pattern(0, 0, 0, 1));
        int name = x.pattern(0, V0, 7, 11);
        int mixed = x.both('u', million, name);
        dueCount(x, mixed, 1000001, 2);
        dueCount(x, x.single(mixed), 2, 2);
        dueCount(x, x.filter(mixed, '=', 3, 3), 1000001, 2);
        dueCount(x, x.filter(mixed, 'b', V0, 0), 1, 1);
        dueCount(x, x.both('m', mixed, name), 1000000, 1);
        int product = x.both('j', mixed, million);
        dueCount(x, product, 2000000, 2);
        due("the last one of the second row", 7, () -> x.row(product, 1999999, 0));
        due("adds each triple once", 1, () -> x.addRows(mixed, 1, 1, 2, 3));
        due("takes each triple once", 1, () -> x.removeRows(mixed, 1, 1, 2, 3));
    }

    /** More rows than an int has numbers: 13 times 13 times 13 rows, each a million times. */
    private static void moreRowsThanAnInt() {
        Triplegarth x = new Triplegarth();
        for (int object = 0; object < 12; object++) {
            x.add(1, 7, 7, object);
        }
        int most = mostRows(x);
        dueCount(x, most, 2197000000L, 2197);
        due("the first one", -1, () -> x.row(most, 0, 2));
        int[] want = {11, 8, 1};
        for (int variable = 0; variable < 3; variable++) {
            int v = variable;
            due("the row at the greatest int", want[v], () -> x.row(most, Integer.MAX_VALUE, v));
            CHECK.dueNoElement("the row at the least int", () -> x.row(most, Integer.MIN_VALUE, v));
        }
        due("the last of a row", 0, () -> x.row(most, 2146999999, 2));
        due("the first of the next row", 1, () -> x.row(most, 2147000000, 2));
        due("sound", true, () -> x.isSound());
    }

    /** The rows of a query with the empty row once, a million times. */
    private static int million(Triplegarth x, int one) {
        int two = x.both('u', one, one);
        int four = x.both('u', two, two);
        int five = x.both('u', four, one);
        int ten = x.both('u', five, five);
        int hundred = x.both('j', ten, ten);
        int tenThousand = x.both('j', hundred, hundred);
        return x.both('j', tenThousand, hundred);
    }

    /** All rows that there are, each a million times. */
    private static int mostRows(Triplegarth x) {
        int one = x.pattern(1, 7, 7, 0);
        int all = million(x, one);
        for (int variable = 0; variable < 3; variable++) {
            int told = x.pattern(1, 7, 7, 20 + variable);
            all = x.both('j', all, x.both('u', told, one));
        }
        return all;
    }

    /** Two rows go together if no variable has another term in one than in the other. */
    private static void twoRowsGoTogether() {
        Triplegarth x = Stores.with(0, 0, 0, 0, 0, 0, 0, 11);
        int none = x.pattern(0, 0, 0, 0);
        int all = none;
        for (int variable = 0; variable < 3; variable++) {
            all = x.both('j', all, x.both('u', none, x.pattern(0, 0, 0, 20 + variable)));
        }
        int rows = all;
        dueCount(x, rows, 27, 27);
        int joined = x.both('j', rows, rows);
        // A variable has none by none alone, and a term by either, or by both.
        dueCount(x, joined, 343, 27);
        due("the empty row, once", "-,-,-", () -> row(x, joined, 0));
        due("then the last variable, thrice", "-,-,0", () -> row(x, joined, 1));
        due("thrice", "-,-,0", () -> row(x, joined, 3));
        due("then the last term", "-,-,11", () -> row(x, joined, 4));
        due("27 times all of them", "11,11,11", () -> row(x, joined, 316));
        due("ahead of them", "11,11,0", () -> row(x, joined, 315));
        // Each row goes together with the empty one, so the optional is the join.
        dueCount(x, x.both('o', rows, rows), 343, 27);
        // Each row has itself to go together with, and its variables in common, but the empty one.
        int minus = x.both('m', rows, rows);
        dueRows(x, minus, "-,-,-");
        dueRows(x, x.both('j', minus, none), "-,-,-");
    }

    private static String row(Triplegarth x, int query, int index) {
        String row = x.row(query, index, 0) + "," + x.row(query, index, 1) + "," + x.row(query, index, 2);
        return row.replace("-1", "-");
    }

    /** At most 20 queries are numbered from 0, of whatever kinds. */
    private static void atMost20Queries() {
        Triplegarth x = Stores.with(0, 0, 0, 0);
        for (int query = 0; query < 20; query++) {
            int number = query;
            int kind = query % 5;
            due("the query " + number, number, () -> kind == 0 ? x.pattern(0, V0, V1, V2)
                    : kind == 1 ? x.path(0, V0, 0, V1, false)
                    : kind == 2 ? x.both('j', number - 1, number - 2)
                    : kind == 3 ? x.filter(number - 1, '=', 0, 0) : x.single(number - 1));
        }
        for (int again = 0; again < 2; again++) {
            CHECK.dueFull("pattern 20", () -> x.pattern(0, V0, V1, V2));
            CHECK.dueFull("path 20", () -> x.path(0, V0, 0, V1, true));
            for (char kind : new char[] {'j', 'o', 'm', 'u'}) {
                CHECK.dueFull("both 20", () -> x.both(kind, 0, 19));
            }
            CHECK.dueFull("filter 20", () -> x.filter(19, 'b', 0, 0));
            CHECK.dueFull("single 20", () -> x.single(19));
            due("the last one", 1L, () -> x.rows(19));
            CHECK.dueNoIndex("no query 20", () -> x.rows(20));
            due("rules are no queries", 1, () -> x.addRule('s', 0, 1, 0) + x.clearRules());
        }
    }

    /** They are made of queries with lower numbers, a query of any number of others; these stay as they are. */
    private static void ofLowerNumbers() {
        Triplegarth x = Stores.with(0, 1, 2, 3);
        x.pattern(0, V0, 2, V1);
        for (int query = 1; query < 20; query++) {
            int number = query;
            CHECK.dueNoIndex("its own number", () -> x.both('u', 0, number));
            CHECK.dueNoIndex("its own number", () -> x.both('u', number, 0));
            CHECK.dueNoIndex("its own number", () -> x.single(number));
            CHECK.dueNoIndex("its own number", () -> x.filter(number, 'b', V0, 0));
            due("of 0 and the one ahead", number, () -> x.both('u', 0, number - 1));
        }
        due("the last one", 20L, () -> x.rows(19));
        due("the first one", 1L, () -> x.rows(0));
        due("the last one anew", 20L, () -> x.rowsAnew(19));
        x.add(0, 4, 2, 5);
        due("one ahead of the last", 38L, () -> x.rowsAnew(18));
        due("the last one, after it", 40L, () -> x.rows(19));
        due("and anew", 40L, () -> x.rowsAnew(19));
    }

    /** Triples are looked at as they are there, or as they are entailed, as is set. */
    private static void asIsSet() {
        Triplegarth x = Stores.with(0, 7, 0, 11);
        x.addRule('s', 0, 7, 0);
        x.pattern(0, V0, V1, V2);
        x.path(0, V0, 7, V1, false);
        x.pattern(3, V0, V1, V2);
        for (int turn = 0; turn < 3; turn++) {
            dueRows(x, 0, "7,0,11");
            dueRows(x, 1, "");
            dueRows(x, 2, "7,0,11");
            x.setEntailed(true);
            dueRows(x, 0, "7,0,11 7,7,11");
            dueRows(x, 1, "7,11,-");
            dueRows(x, 2, "7,0,11 7,7,11");
            x.setEntailed(true);
            due("the same again", 2L, () -> x.rows(0));
            x.setEntailed(false);
        }
    }

    /** For each triple of this graph the row, once; the graph 3 has each triple once. */
    private static void patternOfEachTriple() {
        Triplegarth x = Stores.with(0, 7, 7, 11, 1, 7, 7, 11, 2, 7, 7, 11, 2, 0, 0, 0);
        for (int graph = 0; graph < 4; graph++) {
            x.pattern(graph, V0, V1, V2);
        }
        dueRows(x, 0, "7,7,11");
        dueRows(x, 1, "7,7,11");
        dueRows(x, 2, "0,0,0 7,7,11");
        dueRows(x, 3, "0,0,0 7,7,11");
        Triplegarth none = new Triplegarth();
        none.pattern(3, V0, V1, V2);
        dueRows(none, 0, "");
        Triplegarth full = new Triplegarth();
        for (int i = 0; i < 60; i++) {
            full.add(i % 3, i / 12, i % 8, i % 12);
        }
        full.pattern(3, V2, V1, V0);
        dueCount(full, 0, full.size(3), full.size(3));
    }

    /** The terms that are told: names and numbers, at each place; all told, the row has no term. */
    private static void patternOfTerms() {
        Triplegarth x = Stores.with(0, 0, 7, 0, 0, 7, 0, 11, 0, 7, 7, 8);
        x.pattern(0, 7, V0, V1);
        dueRows(x, 0, "0,11,- 7,8,-");
        x.pattern(0, V0, 7, V1);
        dueRows(x, 1, "0,0,- 7,8,-");
        x.pattern(0, V0, V1, 0);
        dueRows(x, 2, "0,7,-");
        x.pattern(0, V0, V1, 11);
        dueRows(x, 3, "7,0,-");
        x.pattern(0, 7, 0, 11);
        dueRows(x, 4, "-,-,-");
        x.pattern(0, 7, 0, 10);
        dueRows(x, 5, "");
        x.pattern(0, 8, V0, V1);
        dueRows(x, 6, "");
        x.pattern(0, V0, 11, V1);
        dueRows(x, 7, "");
        x.pattern(1, 7, 0, 11);
        dueRows(x, 8, "");
    }

    /** The same term at places of the same variable; a number is at no place but the object. */
    private static void patternOfTheSameVariable() {
        Triplegarth x = Stores.with(0, 7, 0, 7, 0, 0, 0, 0, 0, 7, 7, 7, 0, 7, 7, 11, 0, 0, 7, 7);
        x.pattern(0, V1, V2, V1);
        dueRows(x, 0, "-,0,0 -,7,0 -,7,7");
        x.pattern(0, V1, V1, V2);
        dueRows(x, 1, "-,0,0 -,7,7 -,7,11");
        x.pattern(0, V2, V1, V1);
        dueRows(x, 2, "-,0,0 -,7,0 -,7,7");
        x.pattern(0, V0, V0, V0);
        dueRows(x, 3, "0,-,- 7,-,-");
    }

    /** One or more triples with this predicate lead on, each one's object being the next one's subject. */
    private static void pathOfOneOrMore() {
        Triplegarth x = Stores.with(0, 0, 7, 7, 0, 7, 7, 1, 0, 2, 7, 1, 0, 1, 0, 3, 1, 1, 7, 4);
        x.path(0, V0, 7, V1, false);
        dueRows(x, 0, "0,1,- 0,7,- 2,1,- 7,1,-");
        x.path(3, V0, 7, V1, false);
        dueRows(x, 1, "0,1,- 0,4,- 0,7,- 1,4,- 2,1,- 2,4,- 7,1,- 7,4,-");
        x.path(2, V0, 7, V1, false);
        dueRows(x, 2, "");
        x.path(0, V0, 0, V1, false);
        dueRows(x, 3, "1,3,-");
        x.path(0, 1, 7, 0, false);
        dueRows(x, 4, "");
        x.path(0, 0, 7, 1, false);
        dueRows(x, 5, "-,-,-");
    }

    /** As many as lead on: seven through all names, an eighth to a number, whatever the order of the names. */
    private static void pathOfLength() {
        int[][] orders = {{0, 1, 2, 3, 4, 5, 6, 7}, {7, 6, 5, 4, 3, 2, 1, 0}, {3, 7, 0, 5, 1, 6, 2, 4}};
        for (int[] names : orders) {
            Triplegarth x = new Triplegarth();
            x.path(3, V0, 6, V1, false);
            x.path(3, names[0], 6, V1, false);
            x.path(3, V0, 6, 11, true);
            for (int i = 0; i < 7; i++) {
                x.add(i % 3, names[i], 6, names[i + 1]);
                dueCount(x, 0, (i + 1L) * (i + 2) / 2, (i + 1) * (i + 2) / 2);
                dueCount(x, 1, i + 1L, i + 1);
            }
            x.add(0, names[7], 6, 11);
            dueCount(x, 0, 36, 36);
            dueCount(x, 1, 8, 8);
            dueCount(x, 2, 8, 8);
            x.add(1, names[7], 6, names[0]);
            dueCount(x, 0, 72, 72);
            dueCount(x, 1, 9, 9);
        }
    }

    /** Each pair once, though several ways lead on, and though a way leads round. */
    private static void pathOnce() {
        Triplegarth x = Stores.with(0, 0, 0, 1, 0, 0, 0, 2, 0, 1, 0, 3, 0, 2, 0, 3, 1, 0, 0, 1, 0, 0, 0, 3);
        x.path(3, 0, 0, V2, false);
        dueRows(x, 0, "-,-,1 -,-,2 -,-,3");
        x.path(3, 0, 0, 3, false);
        dueRows(x, 1, "-,-,-");
        x.path(3, 0, 0, 3, true);
        dueRows(x, 2, "-,-,-");
        x.add(0, 3, 0, 0);
        x.add(0, 0, 0, 0);
        x.path(3, V0, 0, V0, false);
        dueRows(x, 3, "0,-,- 1,-,- 2,-,- 3,-,-");
        x.path(3, V0, 0, V0, true);
        dueRows(x, 4, "0,-,- 1,-,- 2,-,- 3,-,- 4,-,- 5,-,- 6,-,- 7,-,-");
        x.path(3, V0, 0, V1, false);
        dueCount(x, 5, 16, 16);
        x.path(3, V0, 0, V1, true);
        dueCount(x, 6, 20, 20);
    }

    /** A path '*' has each of the 8 names with itself, whatever the graph has, and no number. */
    private static void pathOfEachNameWithItself() {
        Triplegarth x = new Triplegarth();
        String names = "0,0,- 1,1,- 2,2,- 3,3,- 4,4,- 5,5,- 6,6,- 7,7,-";
        x.path(3, V0, 7, V1, true);
        dueRows(x, 0, names);
        x.add(0, 7, 7, 11);
        x.add(0, 0, 7, 8);
        x.add(0, 0, 6, 3);
        dueRows(x, 0, "0,0,- 0,8,- 1,1,- 2,2,- 3,3,- 4,4,- 5,5,- 6,6,- 7,7,- 7,11,-");
        x.path(1, V0, 7, V1, true);
        dueRows(x, 1, names);
        for (int term = 0; term < 12; term++) {
            Triplegarth self = Stores.with(0, 7, 7, 11, 0, 0, 7, 8, 0, 0, 7, 9, 0, 0, 7, 10);
            self.path(0, term, 7, term, true);
            dueRows(self, 0, term < 8 ? "-,-,-" : "");
            self.path(0, term, 7, term, false);
            dueRows(self, 1, "");
            self.path(0, V2, 7, V2, true);
            dueCount(self, 2, 8, 8);
        }
    }

    /** From the pairs, rows as by a pattern: terms that are told, the same variable, numbers. */
    private static void pathPlaces() {
        Triplegarth x = Stores.with(0, 7, 7, 0, 0, 0, 7, 11, 0, 3, 7, 3);
        x.path(0, V2, 7, V0, false);
        dueRows(x, 0, "0,-,7 3,-,3 11,-,0 11,-,7");
        x.path(0, 7, 7, V1, false);
        dueRows(x, 1, "-,0,- -,11,-");
        x.path(0, V1, 7, 11, true);
        dueRows(x, 2, "-,0,- -,7,-");
        x.path(0, V1, 7, V1, false);
        dueRows(x, 3, "-,3,-");
        x.path(0, 11, 7, V1, true);
        dueRows(x, 4, "");
        x.path(0, 7, 7, 11, false);
        dueRows(x, 5, "-,-,-");
        x.path(0, V0, 7, 8, true);
        dueRows(x, 6, "");
        x.path(0, 6, 7, V0, true);
        dueRows(x, 7, "6,-,-");
    }

    private static void pathAsEntailed() {
        Triplegarth x = Stores.with(0, 0, 0, 1, 0, 2, 1, 1, 0, 2, 0, 11);
        x.addRule('i', 1, 0, 0);
        x.path(0, V0, 0, V1, false);
        dueRows(x, 0, "0,1,- 2,11,-");
        x.setEntailed(true);
        dueRows(x, 0, "0,1,- 0,2,- 0,11,- 1,2,- 1,11,- 2,11,-");
        x.clearRules();
        dueRows(x, 0, "0,1,- 2,11,-");
    }

    /** As often as the product of how often these are there. */
    private static void joinAsProducts() {
        Triplegarth x = Stores.with(0, 0, 0, 1, 0, 0, 1, 2, 0, 7, 1, 3);
        x.pattern(0, V0, 0, V1);
        x.pattern(0, V0, 1, V2);
        x.both('u', 0, 0);
        x.both('u', 1, 1);
        x.both('u', 3, 1);
        x.both('j', 2, 4);
        dueCount(x, 5, 6, 1);
        due("the last one", "0,1,2", () -> row(x, 5, 5));
        x.both('j', 4, 2);
        dueCount(x, 6, 6, 1);
        x.pattern(0, V0, 2, V1);
        x.both('j', 4, 7);
        dueRows(x, 8, "");
        x.both('j', 7, 4);
        dueRows(x, 9, "");
        x.both('j', 0, 0);
        dueRows(x, 10, "0,1,-");
    }

    /** The same, and each row of the first one with which none of the second one goes together, as often. */
    private static void optionalOfNone() {
        Triplegarth x = Stores.with(0, 0, 0, 1, 0, 7, 0, 11, 0, 0, 1, 2, 0, 0, 1, 3);
        x.pattern(0, V0, 0, V1);
        x.both('u', 0, 0);
        x.pattern(0, V0, 1, V2);
        x.both('o', 1, 2);
        dueRows(x, 3, "0,1,2 0,1,2 0,1,3 0,1,3 7,11,- 7,11,-");
        x.both('o', 2, 1);
        dueRows(x, 4, "0,1,2 0,1,2 0,1,3 0,1,3");
        x.pattern(0, V0, 2, V1);
        x.both('o', 1, 5);
        dueRows(x, 6, "0,1,- 0,1,- 7,11,- 7,11,-");
        x.both('o', 5, 1);
        dueRows(x, 7, "");
        x.both('o', 5, 5);
        dueRows(x, 8, "");
        x.pattern(0, 7, 0, 11);
        x.both('o', 5, 9);
        dueRows(x, 10, "");
        x.both('o', 0, 9);
        dueRows(x, 11, "0,1,- 7,11,-");
        // A row without the variable goes together with each one, so it is not kept without it.
        x.both('u', 9, 0);
        x.both('o', 12, 2);
        dueRows(x, 13, "0,-,2 0,-,3 0,1,2 0,1,3 7,11,-");
        // The same row by either way: made of two, and kept as it is.
        x.pattern(0, V0, 0, 11);
        x.both('u', 14, 0);
        x.pattern(0, 0, V2, 1);
        x.both('o', 15, 16);
        dueRows(x, 17, "0,1,0 7,-,0 7,11,0");
    }

    /** But those with which a row of the second one goes together that has a variable in common with it. */
    private static void minusInCommon() {
        for (int variable = 0; variable < 3; variable++) {
            Triplegarth x = Stores.with(0, 0, 0, 1, 0, 0, 0, 11, 0, 7, 7, 7);
            int place = 20 + variable;
            int other = 20 + (variable + 1) % 3;
            x.pattern(0, 0, 0, place);
            x.pattern(0, 0, 0, other);
            x.pattern(0, 7, 7, place);
            x.pattern(0, 0, 0, 11);
            x.both('m', 0, 1);
            dueCount(x, 4, 2, 2);
            x.both('m', 0, 0);
            dueCount(x, 5, 0, 0);
            x.both('m', 0, 2);
            dueCount(x, 6, 2, 2);
            x.both('m', 0, 3);
            dueCount(x, 7, 2, 2);
            x.both('m', 3, 0);
            dueRows(x, 8, "-,-,-");
            x.filter(0, '=', place, 11);
            x.both('u', 0, 0);
            x.both('m', 10, 9);
            dueCount(x, 11, 2, 1);
            int v = variable;
            due("what is left", 1, () -> x.row(11, 1, v));
            x.both('j', 0, 1);
            x.both('m', 12, 9);
            dueCount(x, 13, 2, 2);
            // Together by the one variable, but not by the other one: nothing goes.
            x.filter(12, '!', place, other);
            x.filter(12, '=', place, other);
            x.both('m', 14, 15);
            dueCount(x, 16, 2, 2);
            x.both('m', 12, 15);
            dueCount(x, 17, 2, 2);
        }
    }

    private static void unionOfBoth() {
        Triplegarth x = Stores.with(0, 0, 0, 0, 0, 7, 7, 11);
        x.pattern(0, V0, V1, V2);
        x.pattern(0, 7, 7, V2);
        x.pattern(0, 1, 1, V2);
        x.both('u', 0, 1);
        dueRows(x, 3, "-,-,11 0,0,0 7,7,11");
        x.both('u', 3, 0);
        dueRows(x, 4, "-,-,11 0,0,0 0,0,0 7,7,11 7,7,11");
        x.both('u', 2, 2);
        dueRows(x, 5, "");
        x.both('u', 2, 0);
        dueRows(x, 6, "0,0,0 7,7,11");
        x.both('u', 0, 2);
        dueRows(x, 7, "0,0,0 7,7,11");
    }

    /** Whether the empty row is kept by a test of two terms. */
    private static void dueKept(char test, int first, int second, boolean isKept, Triplegarth x) {
        int query = x.filter(0, test, first, second);
        due(first + " " + test + " " + second, isKept ? 1L : 0L, () -> x.rows(query));
        due(first + " " + test + " " + second + " anew", isKept ? 1L : 0L, () -> x.rowsAnew(query));
    }

    /** '=' two places are the same term, '!' they are not: all terms with all. */
    private static void filterByTheSameTerm() {
        for (int first = 0; first < 12; first++) {
            Triplegarth same = Stores.with(0, 0, 0, 0);
            Triplegarth other = Stores.with(0, 0, 0, 0);
            same.pattern(0, 0, 0, 0);
            other.pattern(0, 0, 0, 0);
            for (int second = 0; second < 12; second++) {
                dueKept('=', first, second, first == second, same);
                dueKept('!', first, second, first != second, other);
            }
        }
    }

    /** '<' the first one is a number worth less than the second one, a number: all terms with all. */
    private static void filterByWorth() {
        for (int first = 0; first < 12; first++) {
            Triplegarth x = Stores.with(0, 0, 0, 0);
            x.pattern(0, 0, 0, 0);
            for (int second = 0; second < 12; second++) {
                dueKept('<', first, second, first >= 8 && second >= 8 && first < second, x);
            }
        }
        Triplegarth x = new Triplegarth();
        for (int object = 0; object < 12; object++) {
            x.add(0, 7, 7, object);
        }
        x.pattern(0, V0, 7, V1);
        x.filter(0, '<', V1, 11);
        dueRows(x, 1, "7,8,- 7,9,- 7,10,-");
        x.filter(0, '<', 8, V1);
        dueRows(x, 2, "7,9,- 7,10,- 7,11,-");
        x.filter(0, '<', V0, V1);
        dueRows(x, 3, "");
        x.filter(0, '<', V1, V0);
        dueRows(x, 4, "");
        x.filter(0, '<', V1, V1);
        dueRows(x, 5, "");
    }

    /** 'b' the first one has a term: the first and the last terms, and terms that are told. */
    private static void filterByHavingATerm() {
        Triplegarth x = Stores.with(0, 0, 0, 0, 0, 7, 7, 11);
        x.pattern(0, V0, V1, V2);
        x.pattern(0, 0, 0, 0);
        x.both('u', 0, 1);
        for (int variable = 0; variable < 3; variable++) {
            dueRows(x, x.filter(2, 'b', 20 + variable, 99), "0,0,0 7,7,11");
        }
        for (int term : new int[] {0, 7, 8, 11}) {
            dueRows(x, x.filter(2, 'b', term, 99), "-,-,- 0,0,0 7,7,11");
        }
    }

    /** A place that has none makes the test neither true nor false, and the row is not kept. */
    private static void filterOfNone() {
        Triplegarth x = Stores.with(0, 0, 0, 0, 0, 7, 7, 11);
        x.pattern(0, V0, 7, 11);
        x.pattern(0, 0, 0, 0);
        x.both('u', 0, 1);
        for (char test : new char[] {'=', '!', '<'}) {
            dueRows(x, x.filter(2, test, V1, V2), "");
            dueRows(x, x.filter(2, test, V1, V1), "");
            dueRows(x, x.filter(2, test, V0, V1), "");
            dueRows(x, x.filter(2, test, V1, V0), "");
        }
        dueRows(x, x.filter(2, '!', V0, 0), "7,-,-");
        dueRows(x, x.filter(2, '!', 0, V0), "7,-,-");
        dueRows(x, x.filter(2, '=', 7, V0), "7,-,-");
        dueRows(x, x.filter(2, 'b', V1, V0), "");
        dueRows(x, x.filter(2, 'b', V0, V1), "7,-,-");
    }

    /** Of no meaning for 'b' is its second place. */
    private static void filterOfNoMeaningIsNotLookedAt() {
        Triplegarth x = Stores.with(0, 0, 0, 0);
        x.pattern(0, V0, 0, 0);
        for (int off : new int[] {Integer.MIN_VALUE, -1, 0, 8, 11, 12, 19, 20, 22, 23, Integer.MAX_VALUE}) {
            int query = x.filter(0, 'b', V0, off);
            dueRows(x, query, "0,-,-");
        }
    }

    private static void singleOnce() {
        Triplegarth x = Stores.with(0, 0, 0, 0, 0, 7, 7, 11);
        x.pattern(0, V0, V1, V2);
        x.both('u', 0, 0);
        x.pattern(0, 0, 0, 0);
        x.both('u', 1, 2);
        x.both('u', 3, 2);
        dueRows(x, x.single(4), "-,-,- 0,0,0 7,7,11");
        dueRows(x, x.single(0), "0,0,0 7,7,11");
        x.pattern(0, 1, 1, 1);
        dueRows(x, x.single(7), "");
    }

    /** In the order of the term of the variable 0, none ahead of all, then of the variable 1, then of 2. */
    private static void order() {
        Triplegarth x = Stores.with(0, 0, 0, 0, 0, 0, 0, 11, 0, 0, 0, 8);
        int none = x.pattern(0, 0, 0, 0);
        int all = none;
        for (int variable = 2; variable >= 0; variable--) {
            all = x.both('j', all, x.both('u', x.pattern(0, 0, 0, 20 + variable), none));
        }
        int query = x.both('u', all, none);
        String[] terms = {"-", "0", "8", "11"};
        for (int index = 0; index < 65; index++) {
            int i = index;
            int number = Math.max(0, index - 1);
            String want = terms[number / 16] + "," + terms[number / 4 % 4] + "," + terms[number % 4];
            due("the row " + i, want, () -> row(x, query, i));
        }
        CHECK.dueNoElement("no row 65", () -> x.row(query, 65, 0));
    }

    private static void rowOfNoSuchIndex() {
        Triplegarth x = Stores.with(0, 7, 7, 11);
        x.pattern(0, V0, V1, V2);
        x.pattern(1, V0, V1, V2);
        for (int variable = 0; variable < 3; variable++) {
            int v = variable;
            due("the one row", v < 2 ? 7 : 11, () -> x.row(0, 0, v));
            for (int off : new int[] {Integer.MIN_VALUE, -1, 1, Integer.MAX_VALUE}) {
                CHECK.dueNoElement("no row " + off, () -> x.row(0, off, v));
            }
            CHECK.dueNoElement("no row at all", () -> x.row(1, 0, v));
        }
    }

    /** How many different rows, asked ahead of all else, and after each change. */
    private static void differentRows() {
        Triplegarth x = Stores.with(0, 7, 7, 11);
        x.pattern(0, V0, V1, V2);
        x.both('u', 0, 0);
        due("asked first", 1, () -> x.different(1));
        x.add(0, 0, 0, 0);
        due("one more", 2, () -> x.different(1));
        x.remove(0, 7, 7, 11);
        x.remove(0, 0, 0, 0);
        due("none", 0, () -> x.different(1));
    }

    /** The rows are those of now, after a change of anything that they are made of, whatever is asked first. */
    private static void rowsOfNow() {
        for (int asked = 0; asked < 6; asked++) {
            Triplegarth x = Stores.with(0, 7, 0, 7);
            x.pattern(0, V0, V1, V2);
            x.both('u', 0, 0);
            dueNow(asked, x, 1);
            x.add(0, 0, 0, 11);
            dueNow(asked, x, 2);
            x.addRule('s', 0, 7, 0);
            dueNow(asked, x, 2);
            x.setEntailed(true);
            dueNow(asked, x, 4);
            x.addRule('s', 7, 6, 0);
            dueNow(asked, x, 6);
            x.remove(0, 7, 0, 7);
            dueNow(asked, x, 3);
            x.addRows(0, 0, 7, 5, V2);
            dueNow(asked, x, 4);
            x.removeRows(0, 0, V0, 0, 11);
            dueNow(asked, x, 1);
            x.clearRules();
            dueNow(asked, x, 1);
            x.setEntailed(false);
            dueNow(asked, x, 1);
            x.remove(0, 7, 5, 11);
            dueNow(asked, x, 0);
        }
    }

    private static void dueNow(int asked, Triplegarth x, int different) {
        if (asked == 0) {
            due("rows now", 2L * different, () -> x.rows(1));
        } else if (asked == 1) {
            due("anew now", 2L * different, () -> x.rowsAnew(1));
        } else if (asked == 2) {
            due("different now", different, () -> x.different(1));
        } else if (asked == 3) {
            String want = different == 0 ? "throws NoSuchElementException" : "";
            due("the last one now", true, () -> different == 0
                    ? Check.said(() -> x.row(1, 0, 0)).equals(want) : x.row(1, 2 * different - 1, 0) >= 0);
            CHECK.dueNoElement("behind it", () -> x.row(1, 2 * different, 0));
        } else if (asked == 4) {
            due("sound now", true, () -> x.isSound());
            due("rows after it", 2L * different, () -> x.rows(1));
            due("anew after it", 2L * different, () -> x.rowsAnew(1));
        } else {
            due("anew now", (long) different, () -> x.rowsAnew(0));
            due("rows now", 2L * different, () -> x.rows(1));
            due("anew now", 2L * different, () -> x.rowsAnew(1));
            due("sound now", true, () -> x.isSound());
        }
    }

    /** The rows of a query are the same as by trying all rows: in an empty, a rich and a full store. */
    private static void soundAlways() {
        due("new", true, () -> new Triplegarth().isSound());
        due("rich", true, () -> Stores.rich().isSound());
        due("full", true, () -> Stores.full().isSound());
        Triplegarth x = Stores.full();
        for (int turn = 0; turn < 2; turn++) {
            for (int query = 0; query < 20; query++) {
                int q = query;
                due("anew of query " + q, x.rows(q), () -> x.rowsAnew(q));
            }
            x.setEntailed(true);
        }
        due("entailed", true, () -> x.isSound());
    }
}
