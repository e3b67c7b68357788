/** For each promise: ordinary inputs, the edges that the document names, and wrong inputs. */
public final class PromiseTest {
    private static final int V0 = 20;
    private static final int V1 = 21;
    private static final int V2 = 22;
    private static final int[] OFF = {-1, Integer.MIN_VALUE, Integer.MAX_VALUE};
    private static final int[] NO_PLACES = {-1, 12, 13, 19, 23, 32, Integer.MIN_VALUE, Integer.MAX_VALUE};
    private static final Check CHECK = new Check();

    public static void main(String[] args) {
        promise1New();
        promise2Add();
        promise2Full();
        promise3Remove();
        promise4Size();
        promise5AddRule();
        promise6ClearRules();
        promise7Entails();
        promise8LeastProof();
        promise8LongProofs();
        promise9Entailed();
        promise10SetEntailed();
        promise11Pattern();
        promise11Variables();
        promise12Path();
        promise12Places();
        promise13Wrong();
        promise13Join();
        promise13Optional();
        promise13Minus();
        promise13Union();
        promise13EmptyRow();
        promise14Filter();
        promise14Wrong();
        promise15Single();
        promise16Rows();
        promise16Cap();
        promise17RowsAnew();
        promise18Row();
        promise18Wrong();
        promise19Different();
        promise20AddRows();
        promise20Edges();
        promise21RemoveRows();
        promise22AddShape();
        promise23Faults();
        promise24FaultAt();
        promise25Checksum();
        promise26ThereShare();
        promise27MeanProof();
        promise28IsSound();
        CHECK.finish("PromiseTest");
    }

    private static void due(String what, Object want, Check.Call call) {
        CHECK.due(what, want, call);
    }

    private static void promise1New() {
        Triplegarth x = new Triplegarth();
        for (int graph = 0; graph < 4; graph++) {
            int g = graph;
            due("new: size", 0, () -> x.size(g));
            due("new: entailed", 0, () -> x.entailed(g));
        }
        due("new: rules", 0, () -> x.clearRules());
        CHECK.dueNoIndex("new: rows", () -> x.rows(0));
        due("new: faults", 0, () -> x.faults());
        due("new: setEntailed", false, () -> x.setEntailed(false));
        due("new: pattern", 0, () -> x.pattern(3, V0, V1, V2));
        due("new: rule", 0, () -> x.addRule('t', 0, 0, 0));
        due("new: shape", 0, () -> x.addShape(0, 0, 0, 0, 0));
        Triplegarth path = new Triplegarth();
        path.path(0, V0, 0, V1, true);
        due("new: rows of the first query", 8L, () -> path.rows(0));
        due("new: the same anew", 8L, () -> path.rowsAnew(0));
    }

    private static void promise2Add() {
        Triplegarth x = new Triplegarth();
        due("add", true, () -> x.add(0, 7, 7, 11));
        due("add again", false, () -> x.add(0, 7, 7, 11));
        due("add elsewhere", true, () -> x.add(2, 7, 7, 11));
        due("add 0", true, () -> x.add(1, 0, 0, 0));
        due("size(0)", 1, () -> x.size(0));
        due("size(2)", 1, () -> x.size(2));
        CHECK.dueIllegal("add graph 3", () -> x.add(3, 0, 0, 0));
        CHECK.dueIllegal("add subject 8", () -> x.add(0, 8, 0, 0));
        CHECK.dueIllegal("add predicate 8", () -> x.add(0, 0, 8, 0));
        CHECK.dueIllegal("add object 12", () -> x.add(0, 0, 0, 12));
        for (int off : OFF) {
            CHECK.dueIllegal("add graph " + off, () -> x.add(off, 0, 0, 0));
            CHECK.dueIllegal("add subject " + off, () -> x.add(0, off, 0, 0));
            CHECK.dueIllegal("add predicate " + off, () -> x.add(0, 0, off, 0));
            CHECK.dueIllegal("add object " + off, () -> x.add(0, 0, 0, off));
        }
        due("nothing added", 3, () -> x.size(0) + x.size(1) + x.size(2));
    }

    private static void promise2Full() {
        Triplegarth x = Stores.filled(59);
        due("add the 60th", true, () -> x.add(0, 7, 7, 7));
        CHECK.dueFull("add the 61st", () -> x.add(1, 7, 7, 7));
        due("add one that is there", false, () -> x.add(0, 7, 7, 7));
        CHECK.dueIllegal("add no triple to a full store", () -> x.add(0, 7, 7, 12));
        due("remove", true, () -> x.remove(0, 7, 7, 7));
        due("add after a removal", true, () -> x.add(1, 7, 7, 7));
        Triplegarth same = new Triplegarth();
        for (int i = 0; i < 60; i++) {
            same.add(i % 3, 0, i / 12, i / 3 % 12);
        }
        due("60 are counted per graph", true, () -> same.size(3) < 60);
        CHECK.dueFull("60 are counted per graph", () -> same.add(0, 7, 7, 7));
    }

    private static void promise3Remove() {
        Triplegarth x = Stores.with(0, 1, 2, 3, 1, 1, 2, 3);
        due("remove what is not there", false, () -> x.remove(2, 1, 2, 3));
        due("remove", true, () -> x.remove(0, 1, 2, 3));
        due("remove again", false, () -> x.remove(0, 1, 2, 3));
        due("still in graph 3", 1, () -> x.size(3));
        due("remove the other", true, () -> x.remove(1, 1, 2, 3));
        due("no more in graph 3", 0, () -> x.size(3));
        CHECK.dueIllegal("remove graph 3", () -> x.remove(3, 1, 2, 3));
        CHECK.dueIllegal("remove subject 8", () -> x.remove(0, 8, 2, 3));
        CHECK.dueIllegal("remove predicate 8", () -> x.remove(0, 1, 8, 3));
        CHECK.dueIllegal("remove object 12", () -> x.remove(0, 1, 2, 12));
        for (int off : OFF) {
            CHECK.dueIllegal("remove graph " + off, () -> x.remove(off, 0, 0, 0));
            CHECK.dueIllegal("remove subject " + off, () -> x.remove(0, off, 0, 0));
            CHECK.dueIllegal("remove predicate " + off, () -> x.remove(0, 0, off, 0));
            CHECK.dueIllegal("remove object " + off, () -> x.remove(0, 0, 0, off));
        }
    }

    private static void promise4Size() {
        Triplegarth x = Stores.with(0, 1, 2, 3, 1, 1, 2, 3, 1, 1, 2, 4, 2, 0, 0, 8);
        x.addRule('s', 2, 5, 0);
        x.setEntailed(true);
        due("size(0)", 1, () -> x.size(0));
        due("size(1)", 2, () -> x.size(1));
        due("size(2)", 1, () -> x.size(2));
        due("size(3), each once", 3, () -> x.size(3));
        CHECK.dueIllegal("size(4)", () -> x.size(4));
        for (int off : OFF) {
            CHECK.dueIllegal("size " + off, () -> x.size(off));
        }
    }

    private static void promise5AddRule() {
        Triplegarth x = new Triplegarth();
        CHECK.dueIllegal("kind x", () -> x.addRule('x', 0, 0, 0));
        CHECK.dueIllegal("kind 0", () -> x.addRule((char) 0, 0, 0, 0));
        CHECK.dueIllegal("kind T", () -> x.addRule('T', 0, 0, 0));
        for (char kind : new char[] {'s', 'i', 't', 'c'}) {
            for (int off : new int[] {-1, 8, Integer.MAX_VALUE}) {
                CHECK.dueIllegal(kind + " first " + off, () -> x.addRule(kind, off, 0, 0));
                if (kind != 't') {
                    CHECK.dueIllegal(kind + " second " + off, () -> x.addRule(kind, 0, off, 0));
                }
                if (kind == 'c') {
                    CHECK.dueIllegal(kind + " third " + off, () -> x.addRule(kind, 0, 0, off));
                }
            }
        }
        due("nothing added", 0, () -> x.clearRules());
        due("t looks at its first", 0, () -> x.addRule('t', 7, -1, 8));
        due("s looks at two", 1, () -> x.addRule('s', 0, 7, 99));
        due("i looks at two", 2, () -> x.addRule('i', 7, 0, -99));
        due("c looks at three", 3, () -> x.addRule('c', 7, 7, 7));
        for (int i = 4; i < 8; i++) {
            due("rule " + i, i, () -> x.addRule('t', 0, 0, 0));
        }
        CHECK.dueFull("the 9th rule", () -> x.addRule('t', 0, 0, 0));
        CHECK.dueIllegal("a wrong 9th rule", () -> x.addRule('t', 8, 0, 0));
        due("8 rules", 8, () -> x.clearRules());
        due("numbered anew", 0, () -> x.addRule('c', 0, 1, 2));
    }

    private static void promise6ClearRules() {
        Triplegarth x = Stores.with(0, 0, 0, 1);
        due("clear none", 0, () -> x.clearRules());
        x.addRule('s', 0, 1, 0);
        x.addRule('s', 0, 2, 0);
        x.pattern(0, V0, V1, V2);
        x.setEntailed(true);
        due("rows by rules", 3L, () -> x.rows(0));
        due("clear", 2, () -> x.clearRules());
        due("entailed without rules", 1, () -> x.entailed(0));
        due("rows without rules", 1L, () -> x.rows(0));
        due("clear again", 0, () -> x.clearRules());
    }

    private static void promise7Entails() {
        Triplegarth x = Stores.with(0, 0, 0, 1, 1, 1, 0, 2, 0, 3, 5, 9, 0, 4, 5, 4);
        x.addRule('t', 0, 0, 0);
        x.addRule('i', 5, 6, 0);
        due("what is there", true, () -> x.entails(0, 0, 0, 1));
        due("not over graphs", false, () -> x.entails(0, 0, 0, 2));
        due("over graphs in graph 3", true, () -> x.entails(3, 0, 0, 2));
        due("nothing in graph 2", false, () -> x.entails(2, 0, 0, 1));
        due("i from a name", true, () -> x.entails(0, 4, 6, 4));
        CHECK.dueIllegal("no triple", () -> x.entails(0, 9, 6, 3));
        due("i from a number makes none", 4, () -> x.entailed(0));
        due("t goes one way", false, () -> x.entails(3, 2, 0, 0));
        CHECK.dueIllegal("graph 4", () -> x.entails(4, 0, 0, 0));
        CHECK.dueIllegal("predicate 8", () -> x.entails(0, 0, 8, 0));
        CHECK.dueIllegal("object 12", () -> x.entails(0, 0, 0, 12));
        for (int off : OFF) {
            CHECK.dueIllegal("graph " + off, () -> x.entails(off, 0, 0, 0));
            CHECK.dueIllegal("subject " + off, () -> x.entails(0, off, 0, 0));
            CHECK.dueIllegal("predicate " + off, () -> x.entails(0, 0, off, 0));
            CHECK.dueIllegal("object " + off, () -> x.entails(0, 0, 0, off));
        }
        Triplegarth c = Stores.with(0, 0, 1, 3, 0, 3, 2, 8, 0, 3, 1, 5, 0, 4, 2, 3);
        c.addRule('c', 1, 2, 7);
        due("c", true, () -> c.entails(0, 0, 7, 8));
        due("c takes the first predicate ahead", false, () -> c.entails(0, 4, 7, 5));
        due("c makes one", 5, () -> c.entailed(0));
    }

    private static void promise8LeastProof() {
        Triplegarth x = Stores.with(0, 0, 0, 1, 0, 1, 0, 2, 0, 2, 0, 3);
        x.addRule('t', 0, 0, 0);
        x.addRule('s', 0, 1, 0);
        x.addRule('i', 1, 2, 0);
        due("there", 1, () -> x.leastProof(0, 0, 0, 1));
        due("two", 2, () -> x.leastProof(0, 0, 0, 2));
        due("three", 3, () -> x.leastProof(0, 0, 0, 3));
        due("s adds none", 3, () -> x.leastProof(0, 0, 1, 3));
        due("i adds none", 3, () -> x.leastProof(0, 3, 2, 0));
        CHECK.dueNoElement("not entailed", () -> x.leastProof(0, 3, 0, 0));
        CHECK.dueNoElement("another graph", () -> x.leastProof(1, 0, 0, 1));
        due("graph 3", 3, () -> x.leastProof(3, 0, 0, 3));
        x.add(0, 0, 0, 2);
        due("there and follows", 1, () -> x.leastProof(0, 0, 0, 2));
        due("the least of two", 2, () -> x.leastProof(0, 0, 0, 3));
        x.remove(0, 0, 0, 2);
        due("back again", 3, () -> x.leastProof(0, 0, 0, 3));
        CHECK.dueIllegal("graph 4", () -> x.leastProof(4, 0, 0, 0));
        CHECK.dueIllegal("graph -1", () -> x.leastProof(-1, 0, 0, 0));
        CHECK.dueIllegal("subject 8", () -> x.leastProof(0, 8, 0, 0));
        CHECK.dueIllegal("predicate 8", () -> x.leastProof(0, 0, 8, 0));
        CHECK.dueIllegal("object 12", () -> x.leastProof(0, 0, 0, 12));
    }

    private static void promise8LongProofs() {
        Triplegarth x = Stores.with(0, 0, 0, 0);
        for (int predicate = 0; predicate < 7; predicate++) {
            x.addRule('c', predicate, predicate, predicate + 1);
        }
        due("doubled seven times", 128, () -> x.leastProof(0, 0, 7, 0));
        Triplegarth ring = new Triplegarth();
        for (int name = 0; name < 8; name++) {
            ring.add(name % 3, name, 0, (name + 1) % 8);
        }
        ring.addRule('t', 0, 0, 0);
        due("all round", 8, () -> ring.leastProof(3, 5, 0, 5));
        due("not in one graph", 0 + ring.size(0), () -> ring.entailed(0));
    }

    private static void promise9Entailed() {
        Triplegarth x = Stores.with(0, 0, 0, 1, 1, 1, 0, 2, 2, 0, 0, 1);
        x.addRule('t', 0, 0, 0);
        x.addRule('s', 0, 1, 0);
        due("entailed(0)", 2, () -> x.entailed(0));
        due("entailed(1)", 2, () -> x.entailed(1));
        due("entailed(2)", 2, () -> x.entailed(2));
        due("entailed(3)", 6, () -> x.entailed(3));
        CHECK.dueIllegal("entailed(4)", () -> x.entailed(4));
        for (int off : OFF) {
            CHECK.dueIllegal("entailed " + off, () -> x.entailed(off));
        }
        x.setEntailed(true);
        due("size stays", 2, () -> x.size(3));
    }

    private static void promise10SetEntailed() {
        Triplegarth x = Stores.with(0, 0, 0, 1);
        x.addRule('s', 0, 1, 0);
        x.pattern(0, V0, V1, V2);
        x.path(0, V0, 1, V1, false);
        due("at first not", false, () -> x.setEntailed(true));
        due("then so", true, () -> x.setEntailed(true));
        due("pattern entailed", 2L, () -> x.rows(0));
        due("path entailed", 1L, () -> x.rows(1));
        due("back", true, () -> x.setEntailed(false));
        due("pattern there", 1L, () -> x.rows(0));
        due("path there", 0L, () -> x.rows(1));
        due("not any more", false, () -> x.setEntailed(false));
    }

    private static void promise11Pattern() {
        Triplegarth x = Stores.with(0, 1, 2, 3, 0, 1, 2, 9, 1, 1, 2, 3, 1, 4, 4, 4, 2, 2, 1, 2);
        due("all of graph 0", 0, () -> x.pattern(0, V0, V1, V2));
        due("rows", "1,2,3 1,2,9", () -> Stores.told(x, 0));
        due("graph 3 has each once", 1, () -> x.pattern(3, V0, V1, V2));
        due("rows", "1,2,3 1,2,9 2,1,2 4,4,4", () -> Stores.told(x, 1));
        due("terms told", 2, () -> x.pattern(3, 1, 2, 3));
        due("one empty row", "-,-,-", () -> Stores.told(x, 2));
        due("no row", 3, () -> x.pattern(3, 1, 2, 4));
        due("none", 0L, () -> x.rows(3));
        due("a number is no subject", 4, () -> x.pattern(3, 9, V0, V1));
        due("none", 0L, () -> x.rows(4));
        due("a number is no predicate", 5, () -> x.pattern(3, V0, 11, V1));
        due("none", 0L, () -> x.rows(5));
        CHECK.dueIllegal("graph 4", () -> x.pattern(4, V0, V1, V2));
        CHECK.dueIllegal("graph -1", () -> x.pattern(-1, V0, V1, V2));
        for (int off : NO_PLACES) {
            CHECK.dueIllegal("subject " + off, () -> x.pattern(0, off, V1, V2));
            CHECK.dueIllegal("predicate " + off, () -> x.pattern(0, V0, off, V2));
            CHECK.dueIllegal("object " + off, () -> x.pattern(0, V0, V1, off));
        }
        for (int query = 6; query < 20; query++) {
            due("query " + query, query, () -> x.pattern(3, 11, 11, 11));
        }
        CHECK.dueFull("the 21st query", () -> x.pattern(0, V0, V1, V2));
        CHECK.dueIllegal("a wrong 21st query", () -> x.pattern(4, V0, V1, V2));
    }

    private static void promise11Variables() {
        Triplegarth x = Stores.with(0, 1, 2, 1, 0, 1, 1, 2, 0, 2, 1, 1, 0, 3, 3, 3, 0, 1, 2, 8);
        x.pattern(0, V1, V2, V1);
        due("subject is object", "-,1,2 -,3,3", () -> Stores.told(x, 0));
        x.pattern(0, V0, V0, V2);
        due("subject is predicate", "1,-,2 3,-,3", () -> Stores.told(x, 1));
        x.pattern(0, V0, V1, V1);
        due("predicate is object", "2,1,- 3,3,-", () -> Stores.told(x, 2));
        x.pattern(0, V2, V2, V2);
        due("all the same", "-,-,3", () -> Stores.told(x, 3));
        x.pattern(0, V2, 2, V0);
        due("order by variable 0", "1,-,1 8,-,1", () -> Stores.told(x, 4));
    }

    private static void promise12Path() {
        Triplegarth x = Stores.with(0, 0, 0, 1, 1, 1, 0, 2, 0, 2, 0, 0, 0, 2, 0, 11, 0, 1, 1, 5);
        due("+ in one graph", 0, () -> x.path(0, V0, 0, V1, false));
        due("rows", "0,1,- 2,0,- 2,1,- 2,11,-", () -> Stores.told(x, 0));
        due("+ over all", 1, () -> x.path(3, V0, 0, V1, false));
        due("rows", 12L, () -> x.rows(1));
        due("* over all", 2, () -> x.path(3, V0, 0, V1, true));
        due("five more", 17L, () -> x.rows(2));
        due("* of an empty graph", 3, () -> x.path(2, V0, 0, V1, true));
        due("8 names", "0,0,- 1,1,- 2,2,- 3,3,- 4,4,- 5,5,- 6,6,- 7,7,-", () -> Stores.told(x, 3));
        due("+ of an empty graph", 4, () -> x.path(2, V0, 0, V1, false));
        due("none", 0L, () -> x.rows(4));
        CHECK.dueIllegal("graph 4", () -> x.path(4, V0, 0, V1, true));
        CHECK.dueIllegal("graph -1", () -> x.path(-1, V0, 0, V1, true));
        for (int off : NO_PLACES) {
            CHECK.dueIllegal("subject " + off, () -> x.path(0, off, 0, V2, true));
            CHECK.dueIllegal("predicate " + off, () -> x.path(0, V0, off, V2, true));
            CHECK.dueIllegal("object " + off, () -> x.path(0, V0, 0, off, true));
        }
        for (int off : new int[] {8, 11, 20, 22}) {
            CHECK.dueIllegal("predicate " + off, () -> x.path(0, V0, off, V2, true));
        }
        for (int query = 5; query < 20; query++) {
            due("query " + query, query, () -> x.path(2, V0, 0, V1, true));
        }
        CHECK.dueFull("the 21st query", () -> x.path(2, V0, 0, V1, true));
        CHECK.dueIllegal("a wrong 21st query", () -> x.path(2, V0, 8, V1, true));
    }

    private static void promise12Places() {
        Triplegarth x = Stores.with(0, 0, 0, 1, 0, 1, 0, 2, 0, 2, 0, 0, 0, 2, 0, 11, 0, 3, 0, 4);
        x.path(0, V2, 0, V2, false);
        due("+ in rings", "-,-,0 -,-,1 -,-,2", () -> Stores.told(x, 0));
        x.path(0, V2, 0, V2, true);
        due("* in rings", 8L, () -> x.rows(1));
        x.path(0, 3, 0, V1, true);
        due("* from 3", "-,3,- -,4,-", () -> Stores.told(x, 2));
        x.path(0, V0, 0, 11, true);
        due("* to 11", "0,-,- 1,-,- 2,-,-", () -> Stores.told(x, 3));
        x.path(0, 11, 0, V0, true);
        due("* from a number", 0L, () -> x.rows(4));
        x.path(0, 11, 0, 11, true);
        due("* from a number to itself", 0L, () -> x.rows(5));
        x.path(0, 6, 0, 6, true);
        due("* from a name to itself", "-,-,-", () -> Stores.told(x, 6));
        x.path(0, 6, 0, 6, false);
        due("+ from a name to itself", 0L, () -> x.rows(7));
        x.path(0, 0, 0, 0, true);
        due("* once", 1L, () -> x.rows(8));
    }

    private static void promise13Wrong() {
        Triplegarth x = Stores.with(0, 0, 0, 1);
        CHECK.dueIllegal("kind ahead of queries", () -> x.both('x', 0, 0));
        CHECK.dueNoIndex("no query", () -> x.both('j', 0, 0));
        x.pattern(0, V0, V1, V2);
        for (char kind : new char[] {'j', 'o', 'm', 'u'}) {
            for (int off : new int[] {-1, 1, 20, Integer.MIN_VALUE, Integer.MAX_VALUE}) {
                CHECK.dueNoIndex(kind + " first " + off, () -> x.both(kind, off, 0));
                CHECK.dueNoIndex(kind + " second " + off, () -> x.both(kind, 0, off));
            }
        }
        CHECK.dueIllegal("kind J", () -> x.both('J', 0, 0));
        for (int query = 1; query < 20; query++) {
            due("query " + query, query, () -> x.both('m', 0, 0));
        }
        CHECK.dueFull("the 21st query", () -> x.both('j', 0, 0));
        CHECK.dueNoIndex("a wrong 21st query", () -> x.both('j', 0, 20));
        CHECK.dueIllegal("a wrong 21st kind", () -> x.both('J', 0, 20));
    }

    private static void promise13Join() {
        Triplegarth x = Stores.with(0, 0, 0, 1, 0, 1, 0, 2, 0, 1, 1, 9, 0, 1, 1, 10, 0, 0, 1, 9);
        x.pattern(0, V0, 0, V1);
        x.pattern(0, V0, 1, V2);
        x.both('j', 0, 1);
        due("join", "0,1,9 1,2,9 1,2,10", () -> Stores.told(x, 2));
        x.pattern(0, V1, 0, V2);
        x.both('j', 0, 3);
        due("join over a middle", "0,1,2", () -> Stores.told(x, 4));
        x.pattern(0, 0, 0, 1);
        x.both('j', 5, 0);
        due("with the empty row", "0,1,- 1,2,-", () -> Stores.told(x, 6));
        x.pattern(0, 0, 0, 7);
        x.both('j', 0, 7);
        due("with no row", 0L, () -> x.rows(8));
        x.both('u', 0, 0);
        x.both('u', 1, 9);
        x.both('j', 9, 10);
        due("products and sums", 14L, () -> x.rows(11));
        x.pattern(0, V2, 1, V1);
        x.both('j', 1, 12);
        due("clash of the other variables", 0L, () -> x.rows(13));
        x.both('j', 10, 10);
        due("made from several pairs", 23L, () -> x.rows(14));
    }

    private static void promise13Optional() {
        Triplegarth x = Stores.with(0, 0, 0, 1, 0, 1, 0, 2, 0, 1, 1, 9, 0, 1, 1, 10, 0, 5, 5, 5);
        x.pattern(0, V0, 0, V1);
        x.pattern(0, V0, 1, V2);
        x.both('o', 0, 1);
        due("optional", "0,1,- 1,2,9 1,2,10", () -> Stores.told(x, 2));
        x.both('u', 0, 0);
        x.both('o', 3, 1);
        due("as often", "0,1,- 0,1,- 1,2,9 1,2,9 1,2,10 1,2,10", () -> Stores.told(x, 4));
        x.pattern(0, 7, 7, 7);
        x.both('o', 0, 5);
        due("with no row", "0,1,- 1,2,-", () -> Stores.told(x, 6));
        x.both('o', 5, 0);
        due("from no row", 0L, () -> x.rows(7));
        x.pattern(0, V0, 1, V1);
        x.both('o', 0, 8);
        due("none goes together", "0,1,- 1,2,-", () -> Stores.told(x, 9));
        x.both('o', 2, 9);
        due("of optionals", "0,1,- 1,2,9 1,2,10", () -> Stores.told(x, 10));
        x.pattern(0, V0, 5, V2);
        x.both('o', 2, 11);
        due("a row without the variable goes together with none of another name", "0,1,- 1,2,9 1,2,10",
                () -> Stores.told(x, 12));
    }

    private static void promise13Minus() {
        Triplegarth x = Stores.with(0, 0, 0, 1, 0, 1, 0, 2, 0, 1, 1, 9);
        x.pattern(0, V0, 0, V1);
        x.pattern(0, V0, 1, V2);
        x.both('m', 0, 1);
        due("minus", "0,1,-", () -> Stores.told(x, 2));
        x.pattern(0, V2, 1, 9);
        x.both('m', 0, 3);
        due("no variable in common", "0,1,- 1,2,-", () -> Stores.told(x, 4));
        x.pattern(0, 1, 1, 9);
        x.both('m', 0, 5);
        due("the empty row takes none", "0,1,- 1,2,-", () -> Stores.told(x, 6));
        x.both('m', 5, 5);
        due("the empty row stays", "-,-,-", () -> Stores.told(x, 7));
        x.both('u', 0, 0);
        x.both('m', 8, 1);
        due("as often", "0,1,- 0,1,-", () -> Stores.told(x, 9));
        x.both('m', 0, 0);
        due("from itself", 0L, () -> x.rows(10));
        x.both('o', 0, 1);
        x.pattern(0, V2, V1, V0);
        x.both('m', 11, 12);
        due("a variable in common that has another term", "0,1,- 1,2,9", () -> Stores.told(x, 13));
        x.pattern(0, V2, 1, 9);
        x.both('m', 11, 14);
        due("none has no variable in common", "0,1,- 1,2,9", () -> Stores.told(x, 15));
    }

    private static void promise13Union() {
        Triplegarth x = Stores.with(0, 0, 0, 1, 0, 1, 0, 2, 0, 1, 1, 9);
        x.pattern(0, V0, 0, V1);
        x.pattern(0, V0, 1, V2);
        x.both('u', 0, 1);
        due("union", "0,1,- 1,-,9 1,2,-", () -> Stores.told(x, 2));
        x.both('u', 2, 0);
        due("as often as in both", "0,1,- 0,1,- 1,-,9 1,2,- 1,2,-", () -> Stores.told(x, 3));
        x.both('u', 3, 3);
        due("with itself", 10L, () -> x.rows(4));
    }

    /** The row that gives no variable a term is a row like others. */
    private static void promise13EmptyRow() {
        Triplegarth x = Stores.with(0, 0, 0, 1, 0, 1, 0, 2);
        x.pattern(0, V0, 0, V1);
        x.pattern(0, 0, 0, 1);
        String all = "0,1,- 1,2,-";
        x.both('j', 0, 1);
        due("join with the empty row behind", all, () -> Stores.told(x, 2));
        x.both('o', 0, 1);
        due("optional with it behind", all, () -> Stores.told(x, 3));
        x.both('o', 1, 0);
        due("optional with it ahead", all, () -> Stores.told(x, 4));
        x.both('m', 1, 0);
        due("minus from it", "-,-,-", () -> Stores.told(x, 5));
        x.both('u', 1, 1);
        due("union of it", "-,-,- -,-,-", () -> Stores.told(x, 6));
        x.both('j', 6, 6);
        due("join of it", 4L, () -> x.rows(7));
        x.single(7);
        due("single of it", "-,-,-", () -> Stores.told(x, 8));
        x.filter(6, 'b', 3, 0);
        due("filter of it", "-,-,- -,-,-", () -> Stores.told(x, 9));
        x.filter(6, '!', V0, 3);
        due("filter by a place that has none", 0L, () -> x.rows(10));
        for (int query = 0; query < 11; query++) {
            int q = query;
            due("anew " + q, x.rows(q), () -> x.rowsAnew(q));
        }
        due("addRows by it", 1, () -> x.addRows(6, 1, 5, 6, 7));
        due("addRows by it needs terms", 0, () -> x.addRows(6, 1, 5, 6, V0));
        due("removeRows by it", 1, () -> x.removeRows(6, 1, 5, 6, 7));
    }

    private static void promise14Filter() {
        Triplegarth x = Stores.with(0, 0, 0, 8, 0, 1, 0, 11, 0, 2, 0, 2, 0, 3, 1, 4, 0, 4, 0, 9);
        x.pattern(0, V0, 0, V1);
        x.pattern(0, V0, 1, V2);
        x.both('u', 0, 1);
        due("= ", 3, () -> x.filter(2, '=', V0, V1));
        due("= rows", "2,2,-", () -> Stores.told(x, 3));
        due("!", 4, () -> x.filter(2, '!', V0, V1));
        due("! rows", "0,8,- 1,11,- 4,9,-", () -> Stores.told(x, 4));
        due("<", 5, () -> x.filter(2, '<', 8, V1));
        due("< rows", "1,11,- 4,9,-", () -> Stores.told(x, 5));
        due("< the other way", 6, () -> x.filter(2, '<', V1, 11));
        due("< rows", "0,8,- 4,9,-", () -> Stores.told(x, 6));
        due("< of names", 7, () -> x.filter(2, '<', V0, V1));
        due("< rows", 0L, () -> x.rows(7));
        due("b", 8, () -> x.filter(2, 'b', V1, 23));
        due("b rows", "0,8,- 1,11,- 2,2,- 4,9,-", () -> Stores.told(x, 8));
        due("b of a term", 9, () -> x.filter(2, 'b', 5, Integer.MIN_VALUE));
        due("b rows", 5L, () -> x.rows(9));
        due("= of none", 10, () -> x.filter(2, '=', V2, V2));
        due("= rows", "3,-,4", () -> Stores.told(x, 10));
        due("! of none", 11, () -> x.filter(2, '!', V2, 3));
        due("! rows", "3,-,4", () -> Stores.told(x, 11));
        due("= of terms", 12, () -> x.filter(2, '=', 4, 4));
        due("= rows", 5L, () -> x.rows(12));
        due("! of terms", 13, () -> x.filter(2, '!', 4, 4));
        due("! rows", 0L, () -> x.rows(13));
        x.both('u', 2, 2);
        x.filter(14, '=', V1, 8);
        due("as often", "0,8,- 0,8,-", () -> Stores.told(x, 15));
        due("< of the same number", 16, () -> x.filter(2, '<', 10, 10));
        due("< rows", 0L, () -> x.rows(16));
        due("< with a name ahead", 17, () -> x.filter(2, '<', 7, 8));
        due("< rows", 0L, () -> x.rows(17));
    }

    private static void promise14Wrong() {
        Triplegarth x = Stores.with(0, 0, 0, 8);
        CHECK.dueNoIndex("no query", () -> x.filter(0, 'x', 99, 99));
        x.pattern(0, V0, V1, V2);
        CHECK.dueNoIndex("query -1", () -> x.filter(-1, '=', 0, 0));
        CHECK.dueNoIndex("query 1", () -> x.filter(1, '=', 0, 0));
        CHECK.dueIllegal("test x", () -> x.filter(0, 'x', 0, 0));
        CHECK.dueIllegal("test >", () -> x.filter(0, '>', 0, 0));
        for (int off : NO_PLACES) {
            for (char test : new char[] {'=', '!', '<'}) {
                CHECK.dueIllegal(test + " first " + off, () -> x.filter(0, test, off, 0));
                CHECK.dueIllegal(test + " second " + off, () -> x.filter(0, test, 0, off));
            }
            CHECK.dueIllegal("b first " + off, () -> x.filter(0, 'b', off, 0));
        }
        for (int query = 1; query < 20; query++) {
            due("query " + query, query, () -> x.filter(0, 'b', V0, 99));
        }
        CHECK.dueFull("the 21st query", () -> x.filter(0, 'b', V0, 99));
        CHECK.dueIllegal("a wrong 21st test", () -> x.filter(0, 'x', V0, 0));
        CHECK.dueNoIndex("a wrong 21st query", () -> x.filter(20, 'x', V0, 0));
    }

    private static void promise15Single() {
        Triplegarth x = Stores.with(0, 0, 0, 8, 0, 1, 0, 9);
        CHECK.dueNoIndex("no query", () -> x.single(0));
        x.pattern(0, V0, V1, V2);
        x.both('u', 0, 0);
        due("single", 2, () -> x.single(1));
        due("each once", "0,0,8 1,0,9", () -> Stores.told(x, 2));
        due("single of a single", 3, () -> x.single(2));
        due("the same", 2L, () -> x.rows(3));
        CHECK.dueNoIndex("query -1", () -> x.single(-1));
        CHECK.dueNoIndex("query 4", () -> x.single(4));
        for (int query = 4; query < 20; query++) {
            due("query " + query, query, () -> x.single(1));
        }
        CHECK.dueFull("the 21st query", () -> x.single(0));
        CHECK.dueNoIndex("a wrong 21st query", () -> x.single(20));
    }

    private static void promise16Rows() {
        Triplegarth x = Stores.with(0, 0, 0, 8);
        CHECK.dueNoIndex("no query", () -> x.rows(0));
        x.pattern(3, V0, V1, V2);
        due("rows", 1L, () -> x.rows(0));
        x.add(1, 0, 0, 9);
        due("after add", 2L, () -> x.rows(0));
        x.remove(0, 0, 0, 8);
        due("after remove", 1L, () -> x.rows(0));
        x.addRows(0, 2, V0, 5, V2);
        due("after addRows", 2L, () -> x.rows(0));
        x.removeRows(0, 1, V0, V1, V2);
        due("after removeRows", 1L, () -> x.rows(0));
        x.setEntailed(true);
        x.addRule('s', 5, 6, 0);
        due("after addRule", 2L, () -> x.rows(0));
        for (int off : new int[] {-1, 1, 20, Integer.MIN_VALUE, Integer.MAX_VALUE}) {
            CHECK.dueNoIndex("rows " + off, () -> x.rows(off));
        }
    }

    private static void promise16Cap() {
        Triplegarth x = Stores.with(0, 0, 0, 8, 0, 1, 0, 9);
        x.pattern(0, V0, 0, V1);
        x.both('u', 0, 0);
        for (int i = 1; i < 5; i++) {
            x.both('j', i, i);
        }
        due("65536 each", 131072L, () -> x.rows(5));
        x.both('j', 5, 5);
        due("a million each", 2000000L, () -> x.rows(6));
        x.both('u', 6, 6);
        due("no more than a million each", 2000000L, () -> x.rows(7));
        x.both('j', 7, 7);
        due("no more by a join", 2000000L, () -> x.rows(8));
        x.both('o', 8, 0);
        due("no more by an optional", 2000000L, () -> x.rows(9));
        due("the last of the first", 0, () -> x.row(9, 999999, 0));
        due("the first of the second", 1, () -> x.row(9, 1000000, 0));
        CHECK.dueNoElement("behind the last", () -> x.row(9, 2000000, 0));
        x.single(9);
        due("single", 2L, () -> x.rows(10));
        due("anew", 2000000L, () -> x.rowsAnew(9));
        for (int i = 0; i < 4; i++) {
            x.both('u', 5 + (i == 0 ? 0 : 5 + i), 5 + (i == 0 ? 0 : 5 + i));
        }
        due("2 to the 20th is more than a million", 2000000L, () -> x.rows(14));
        due("2 to the 19th is not", 1048576L, () -> x.rows(13));
    }

    private static void promise17RowsAnew() {
        Triplegarth x = Stores.with(0, 0, 0, 8, 0, 1, 0, 0, 0, 0, 1, 9, 1, 2, 2, 2);
        CHECK.dueNoIndex("no query", () -> x.rowsAnew(0));
        x.pattern(3, V0, V1, V2);
        x.pattern(3, V0, 0, V1);
        x.pattern(3, V0, 1, V2);
        x.path(3, V0, 0, V1, true);
        x.both('j', 1, 2);
        x.both('o', 1, 2);
        x.both('m', 1, 2);
        x.both('u', 3, 1);
        x.filter(7, '!', V0, V1);
        x.single(7);
        long[] want = {4, 2, 1, 11, 1, 2, 1, 13, 5, 11};
        for (int query = 0; query < want.length; query++) {
            int q = query;
            due("rows " + q, want[q], () -> x.rows(q));
            due("rowsAnew " + q, want[q], () -> x.rowsAnew(q));
        }
        x.add(2, 5, 0, 6);
        due("anew after a change", 5L, () -> x.rowsAnew(0));
        for (int off : new int[] {-1, 10, 20, Integer.MIN_VALUE, Integer.MAX_VALUE}) {
            CHECK.dueNoIndex("rowsAnew " + off, () -> x.rowsAnew(off));
        }
    }

    private static void promise18Row() {
        Triplegarth x = Stores.with(0, 0, 0, 11, 0, 7, 0, 0, 0, 3, 1, 9);
        x.pattern(0, V2, 0, V0);
        x.pattern(0, V1, 1, V0);
        x.both('u', 0, 1);
        x.pattern(0, 3, 1, 9);
        x.both('u', 2, 3);
        x.both('u', 4, 4);
        due("none ahead of all, each as often", "-,-,- -,-,- 0,-,7 0,-,7 9,3,- 9,3,- 11,-,0 11,-,0",
                () -> Stores.told(x, 5));
        due("a term", 9, () -> x.row(5, 5, 0));
        due("none", -1, () -> x.row(5, 5, 2));
        x.remove(0, 3, 1, 9);
        due("after a change", 7, () -> x.row(5, 0, 2));
    }

    private static void promise18Wrong() {
        Triplegarth x = Stores.with(0, 0, 0, 11);
        CHECK.dueNoIndex("no query", () -> x.row(0, -1, 3));
        x.pattern(0, V0, V1, V2);
        CHECK.dueNoIndex("query -1", () -> x.row(-1, -1, 3));
        CHECK.dueNoIndex("query 1", () -> x.row(1, 0, 0));
        CHECK.dueIllegal("variable 3", () -> x.row(0, 9, 3));
        for (int off : OFF) {
            CHECK.dueIllegal("variable " + off, () -> x.row(0, -1, off));
            CHECK.dueNoElement("index " + off, () -> x.row(0, off, 0));
        }
        CHECK.dueNoElement("index 1", () -> x.row(0, 1, 0));
        due("index 0", 11, () -> x.row(0, 0, 2));
        x.remove(0, 0, 0, 11);
        CHECK.dueNoElement("no rows", () -> x.row(0, 0, 0));
    }

    private static void promise19Different() {
        Triplegarth x = Stores.with(0, 0, 0, 11, 0, 1, 0, 11, 0, 1, 1, 11);
        CHECK.dueNoIndex("no query", () -> x.different(0));
        x.pattern(0, V0, V1, V2);
        x.both('u', 0, 0);
        due("rows", 6L, () -> x.rows(1));
        due("different", 3, () -> x.different(1));
        x.pattern(0, V0, 7, V1);
        due("none", 0, () -> x.different(2));
        for (int off : new int[] {-1, 3, 20, Integer.MIN_VALUE, Integer.MAX_VALUE}) {
            CHECK.dueNoIndex("different " + off, () -> x.different(off));
        }
    }

    private static void promise20AddRows() {
        Triplegarth x = Stores.with(0, 0, 0, 1, 0, 1, 0, 9, 0, 2, 1, 3);
        CHECK.dueNoIndex("no query", () -> x.addRows(0, 3, 99, 99, 99));
        x.pattern(0, V0, 0, V1);
        x.pattern(0, V0, 1, V2);
        x.both('u', 0, 1);
        due("where a place has none, none is made", 2, () -> x.addRows(2, 1, V0, 7, V1));
        due("again", 0, () -> x.addRows(2, 1, V0, 7, V1));
        due("a number is no subject", 1, () -> x.addRows(2, 2, V1, 7, V0));
        due("its triple", true, () -> x.entails(2, 1, 7, 0));
        due("predicates from rows", 1, () -> x.addRows(1, 2, V0, V2, V0));
        due("its triple", true, () -> x.entails(2, 2, 3, 2));
        due("all from terms", 1, () -> x.addRows(0, 2, 5, 5, 11));
        due("a number as predicate", 0, () -> x.addRows(0, 2, V0, 8, V1));
        due("a number as subject", 0, () -> x.addRows(0, 2, 11, 0, V1));
        due("size(2)", 3, () -> x.size(2));
        due("as the result was ahead", 2, () -> x.addRows(0, 0, 6, 0, V0));
        due("size(0)", 5, () -> x.size(0));
        CHECK.dueNoIndex("query 3", () -> x.addRows(3, 0, 0, 0, 0));
        CHECK.dueNoIndex("query -1", () -> x.addRows(-1, 0, 0, 0, 0));
        CHECK.dueIllegal("graph 3", () -> x.addRows(0, 3, 0, 0, 0));
        CHECK.dueIllegal("graph -1", () -> x.addRows(0, -1, 0, 0, 0));
        for (int off : NO_PLACES) {
            CHECK.dueIllegal("subject " + off, () -> x.addRows(0, 0, off, 0, 0));
            CHECK.dueIllegal("predicate " + off, () -> x.addRows(0, 0, 0, off, 0));
            CHECK.dueIllegal("object " + off, () -> x.addRows(0, 0, 0, 0, off));
        }
    }

    private static void promise20Edges() {
        Triplegarth x = Stores.filled(40);
        x.pattern(3, V0, V1, V2);
        x.pattern(0, V0, V1, V2);
        long sum = x.checksum();
        CHECK.dueFull("more than 60", () -> x.addRows(0, 0, V0, 7, V2));
        due("nothing changed", sum, () -> x.checksum());
        int size = x.size(0);
        due("some more", size, () -> x.addRows(1, 1, V0, 7, V2));
        for (int i = 0; i < 60 && x.size(0) + x.size(1) + x.size(2) < 60; i++) {
            x.add(2, i % 8, 6, i / 8);
        }
        due("60", 60, () -> x.size(0) + x.size(1) + x.size(2));
        due("none new in a full store", 0, () -> x.addRows(1, 0, V0, V1, V2));
        CHECK.dueFull("one new in a full store", () -> x.addRows(1, 0, 7, 7, 7));
        x.remove(2, 0, 6, 0);
        due("one new in the last place", 1, () -> x.addRows(1, 0, 7, 7, 7));
        CHECK.dueIllegal("wrong in a full store", () -> x.addRows(1, 3, 7, 7, 6));
        Triplegarth ring = Stores.with(0, 0, 0, 1, 0, 1, 0, 2);
        ring.addRule('t', 0, 0, 0);
        ring.pattern(0, V0, 0, V1);
        ring.setEntailed(true);
        due("entailed rows", 1, () -> ring.addRows(0, 0, V0, 0, V1));
        due("are there now", 3, () -> ring.size(0));
    }

    private static void promise21RemoveRows() {
        Triplegarth x = Stores.with(0, 0, 0, 1, 0, 1, 0, 9, 1, 1, 0, 9, 1, 1, 0, 0, 0, 2, 1, 3);
        CHECK.dueNoIndex("no query", () -> x.removeRows(0, 3, 99, 99, 99));
        x.pattern(0, V0, 0, V1);
        x.pattern(0, V0, 1, V2);
        x.both('u', 0, 1);
        due("turned round", 1, () -> x.removeRows(2, 1, V1, 0, V0));
        due("those there", 1, () -> x.removeRows(2, 1, V0, 0, V1));
        due("size(1)", 0, () -> x.size(1));
        due("none there", 0, () -> x.removeRows(2, 1, V0, 0, V1));
        due("size(3)", 3, () -> x.size(3));
        due("a number as predicate", 0, () -> x.removeRows(0, 0, V0, 8, V1));
        due("all from terms", 1, () -> x.removeRows(0, 0, 2, 1, 3));
        due("its own rows", 2, () -> x.removeRows(0, 0, V0, 0, V1));
        due("size(0)", 0, () -> x.size(0));
        due("size(3)", 0, () -> x.size(3));
        due("no rows, no triple", 0, () -> x.removeRows(0, 0, 0, 0, 0));
        CHECK.dueNoIndex("query 3", () -> x.removeRows(3, 0, 0, 0, 0));
        CHECK.dueNoIndex("query -1", () -> x.removeRows(-1, 0, 0, 0, 0));
        CHECK.dueIllegal("graph 3", () -> x.removeRows(0, 3, 0, 0, 0));
        CHECK.dueIllegal("graph -1", () -> x.removeRows(0, -1, 0, 0, 0));
        for (int off : NO_PLACES) {
            CHECK.dueIllegal("subject " + off, () -> x.removeRows(0, 0, off, 0, 0));
            CHECK.dueIllegal("predicate " + off, () -> x.removeRows(0, 0, 0, off, 0));
            CHECK.dueIllegal("object " + off, () -> x.removeRows(0, 0, 0, 0, off));
        }
    }

    private static void promise22AddShape() {
        Triplegarth x = new Triplegarth();
        due("shape 0", 0, () -> x.addShape(3, 7, 7, 9, 9));
        CHECK.dueIllegal("graph 4", () -> x.addShape(4, 0, 0, 0, 0));
        CHECK.dueIllegal("graph -1", () -> x.addShape(-1, 0, 0, 0, 0));
        for (int off : new int[] {-1, 8, Integer.MIN_VALUE, Integer.MAX_VALUE}) {
            CHECK.dueIllegal("predicate " + off, () -> x.addShape(0, off, 0, 0, 0));
            CHECK.dueIllegal("other " + off, () -> x.addShape(0, 0, off, 0, 0));
        }
        CHECK.dueIllegal("least -1", () -> x.addShape(0, 0, 0, -1, 0));
        CHECK.dueIllegal("greatest 10", () -> x.addShape(0, 0, 0, 0, 10));
        CHECK.dueIllegal("both 10", () -> x.addShape(0, 0, 0, 10, 10));
        CHECK.dueIllegal("both -1", () -> x.addShape(0, 0, 0, -1, -1));
        CHECK.dueIllegal("greatest less", () -> x.addShape(0, 0, 0, 5, 4));
        for (int shape = 1; shape < 6; shape++) {
            due("shape " + shape, shape, () -> x.addShape(0, 0, 0, 0, 0));
        }
        CHECK.dueFull("the 7th shape", () -> x.addShape(0, 0, 0, 0, 0));
        CHECK.dueIllegal("a wrong 7th shape", () -> x.addShape(0, 0, 0, 1, 0));
    }

    private static void promise23Faults() {
        Triplegarth x = Stores.with(0, 0, 0, 1, 0, 0, 0, 2, 0, 0, 1, 8, 0, 3, 0, 3, 1, 3, 1, 3, 0, 4, 1, 4);
        x.addShape(0, 0, 1, 1, 1);
        due("3 has no 1 in graph 0", 1, () -> x.faults());
        x.addShape(3, 0, 1, 1, 1);
        due("3 has it in graph 3", 1, () -> x.faults());
        x.addShape(0, 0, 0, 2, 2);
        due("3 has one 0 only", 2, () -> x.faults());
        x.addShape(0, 0, 0, 0, 1);
        due("0 has two", 3, () -> x.faults());
        x.addShape(0, 1, 0, 0, 0);
        due("0 has both, 4 has 1 only", 4, () -> x.faults());
        x.addRule('s', 0, 1, 0);
        due("as they are there", 4, () -> x.faults());
        x.setEntailed(true);
        due("as they are entailed", 6, () -> x.faults());
    }

    private static void promise24FaultAt() {
        Triplegarth x = Stores.with(0, 7, 0, 1, 0, 2, 0, 2, 0, 2, 1, 8, 0, 0, 1, 3);
        CHECK.dueNoIndex("no shape", () -> x.faultAt(0));
        x.addShape(0, 0, 2, 1, 9);
        x.addShape(0, 1, 2, 0, 0);
        x.addShape(0, 1, 0, 1, 1);
        int[] want = {2, 7, 20};
        for (int index = 0; index < want.length; index++) {
            int i = index;
            due("faultAt " + i, want[i], () -> x.faultAt(i));
        }
        CHECK.dueNoIndex("behind the last", () -> x.faultAt(3));
        for (int off : OFF) {
            CHECK.dueNoIndex("faultAt " + off, () -> x.faultAt(off));
        }
        x.addRule('s', 0, 2, 0);
        x.setEntailed(true);
        due("entailed", 12, () -> x.faultAt(0));
        due("entailed", 20, () -> x.faultAt(1));
        CHECK.dueNoIndex("entailed", () -> x.faultAt(2));
    }

    private static void promise25Checksum() {
        Triplegarth x = new Triplegarth();
        due("at first", 0L, () -> x.checksum());
        x.add(2, 7, 6, 11);
        due("one", 2L + 21 + 30 + 77, () -> x.checksum());
        x.add(0, 7, 6, 11);
        due("graphs ahead", 31L * 128 + 130, () -> x.checksum());
        x.add(0, 7, 5, 0);
        due("predicates ahead of objects", 31L * (31 * 46 + 128) + 130, () -> x.checksum());
        x.add(0, 0, 7, 1);
        due("subjects ahead of predicates", 31L * (31 * (31 * 42 + 46) + 128) + 130, () -> x.checksum());
        x.setEntailed(true);
        x.addRule('s', 5, 6, 0);
        due("as they are there", 31L * (31 * (31 * 42 + 46) + 128) + 130, () -> x.checksum());
        x.removeRows(x.pattern(3, V0, V1, V2), 0, V0, V1, V2);
        due("one is left", 130L, () -> x.checksum());
    }

    private static void promise26ThereShare() {
        Triplegarth x = new Triplegarth();
        due("none", "throws ArithmeticException", () -> x.thereShare());
        x.add(0, 0, 0, 1);
        due("all", 1.0f, () -> x.thereShare());
        x.add(1, 1, 0, 2);
        x.add(2, 1, 0, 2);
        x.addRule('t', 0, 0, 0);
        due("two of three", 2f / 3f, () -> x.thereShare());
        x.clearRules();
        due("all again", 1.0f, () -> x.thereShare());
        x.remove(0, 0, 0, 1);
        x.remove(1, 1, 0, 2);
        due("one is left", 1.0f, () -> x.thereShare());
        x.remove(2, 1, 0, 2);
        due("none again", "throws ArithmeticException", () -> x.thereShare());
    }

    private static void promise27MeanProof() {
        Triplegarth x = new Triplegarth();
        due("none", "throws ArithmeticException", () -> x.meanProof());
        x.add(0, 0, 0, 1);
        x.add(1, 1, 0, 2);
        due("ones", 1.0, () -> x.meanProof());
        x.addRule('t', 0, 0, 0);
        due("4 of three", 4.0 / 3.0, () -> x.meanProof());
        x.add(2, 2, 0, 8);
        due("10 of six", 10.0 / 6.0, () -> x.meanProof());
    }

    private static void promise28IsSound() {
        Triplegarth x = new Triplegarth();
        due("new", true, () -> x.isSound());
        x.add(0, 0, 0, 1);
        x.add(0, 1, 0, 9);
        x.addRule('t', 0, 0, 0);
        x.setEntailed(true);
        x.pattern(0, V0, 0, V1);
        x.path(0, V0, 0, V2, true);
        for (char kind : new char[] {'j', 'o', 'm', 'u'}) {
            x.both(kind, 0, 1);
        }
        x.filter(5, 'b', V1, 0);
        x.single(5);
        due("with queries", true, () -> x.isSound());
        long rows = x.rows(5);
        x.isSound();
        due("changes nothing", rows, () -> x.rows(5));
    }
}
