import java.math.BigInteger;

/** What the document says of triples, graphs, rules and figures: for each sentence with an edge, its edge. */
public final class TripleSentenceTest {
    private static final int V0 = Stores.V0;
    private static final int V1 = Stores.V1;
    private static final int V2 = Stores.V2;
    private static final Check CHECK = new Check();

    public static void main(String[] args) {
        termsFrom0To11();
        eachASetOfTriples();
        atMost60InAll();
        graph3HasTheTriplesOfAll();
        atMost8Rules();
        ruleOfNoMeaningIsNotLookedAt();
        ruleS();
        ruleI();
        ruleT();
        ruleC();
        triplesOfTheSameGraph();
        andAllThatFollow();
        proofOfOneThatIsThere();
        leastSum();
        proofsOfSAndI();
        proofsOfDoubling();
        proofsAfterChanges();
        setEntailedSaysHowItWas();
        usedFor512Calls();
        checksumWrapsAround();
        checksumByRisingGraphs();
        thereShareAsFloats();
        meanProofAsDoubles();
        noTriplesNoFigures();
        CHECK.finish("TripleSentenceTest");
    }

    private static void due(String what, Object want, Check.Call call) {
        CHECK.due(what, want, call);
    }

    /** Terms 0 to 11: names 0 to 7, and numbers 8 to 11; subjects and predicates are names, objects are terms. */
    private static void termsFrom0To11() {
        for (int subject = -1; subject <= 12; subject++) {
            for (int predicate = -1; predicate <= 12; predicate++) {
                Triplegarth x = new Triplegarth();
                int s = subject;
                int p = predicate;
                boolean areNames = 0 <= s && s < 8 && 0 <= p && p < 8;
                for (int object = -1; object <= 12; object++) {
                    int o = object;
                    boolean isTriple = areNames && 0 <= o && o < 12;
                    String what = "triple " + s + " " + p + " " + o;
                    due(what, isTriple ? true : "throws IllegalArgumentException", () -> x.add(2, s, p, o));
                }
                due("all of " + s + " " + p, areNames ? 12 : 0, () -> x.size(3));
            }
        }
    }

    /** Graphs, each a set of triples: one that is there is not new, and does not fill the store. */
    private static void eachASetOfTriples() {
        for (int graph = 0; graph < 3; graph++) {
            int g = graph;
            Triplegarth x = new Triplegarth();
            due("new", true, () -> x.add(g, 0, 0, 0));
            for (int i = 0; i < 70; i++) {
                due("not new", false, () -> x.add(g, 0, 0, 0));
            }
            due("once", 1, () -> x.size(g));
            due("taken once", true, () -> x.remove(g, 0, 0, 0));
            due("not there any more", false, () -> x.remove(g, 0, 0, 0));
            due("none", 0, () -> x.size(g));
            due("none in graph 3", 0, () -> x.size(3));
            due("new again", true, () -> x.add(g, 0, 0, 0));
        }
    }

    /** At most 60 in all: in one graph, over the graphs, and the same ones in several graphs. */
    private static void atMost60InAll() {
        for (int spread = 1; spread <= 3; spread++) {
            Triplegarth x = new Triplegarth();
            for (int i = 0; i < 60; i++) {
                int g = i % spread;
                int triple = i / spread;
                due("the triple " + i, true, () -> x.add(g, triple / 12, 7, triple % 12));
            }
            for (int graph = 0; graph < 3; graph++) {
                int g = graph;
                CHECK.dueFull("the 61st of graph " + g, () -> x.add(g, 7, 0, 11));
            }
            due("60 in graph 0, 1 and 2", 60, () -> x.size(0) + x.size(1) + x.size(2));
            due("each once in graph 3", 60 / spread, () -> x.size(3));
            due("one that is there", false, () -> x.add(0, 0, 7, 0));
            due("remove one that is not there", false, () -> x.remove(0, 7, 0, 11));
            CHECK.dueFull("that made no room", () -> x.add(0, 7, 0, 11));
            due("remove one", true, () -> x.remove(0, 0, 7, 0));
            due("there is room for one", true, () -> x.add(2, 7, 0, 11));
            CHECK.dueFull("and no more", () -> x.add(0, 0, 7, 0));
            x.addRule('s', 7, 1, 0);
            due("what follows needs no room", true, () -> x.entailed(3) > x.size(3));
        }
    }

    /** The graph 3 has the triples of all, each once, until the last one goes. */
    private static void graph3HasTheTriplesOfAll() {
        Triplegarth x = new Triplegarth();
        x.pattern(3, V0, V1, V2);
        x.pattern(1, V0, V1, V2);
        for (int graph = 0; graph < 3; graph++) {
            x.add(graph, 7, 7, 11);
            due("once in graph 3", 1, () -> x.size(3));
            due("one row", 1L, () -> x.rows(0));
            due("one entailed", 1, () -> x.entailed(3));
        }
        int[] order = {1, 2, 0};
        for (int i = 0; i < 3; i++) {
            int left = i < 2 ? 1 : 0;
            x.remove(order[i], 7, 7, 11);
            due("left in graph 3", left, () -> x.size(3));
            due("rows of graph 3", (long) left, () -> x.rows(0));
            due("rows of graph 1", 0L, () -> x.rows(1));
        }
    }

    /** At most 8 rules are numbered from 0; the same rule again is one more. */
    private static void atMost8Rules() {
        Triplegarth x = Stores.with(0, 1, 7, 2);
        for (int round = 0; round < 3; round++) {
            for (int i = 0; i < 8; i++) {
                int number = i;
                due("rule " + i, number, () -> x.addRule('s', 7, 0, 0));
            }
            CHECK.dueFull("the 9th", () -> x.addRule('s', 7, 1, 0));
            due("the 9th was not taken", 2, () -> x.entailed(0));
            due("8 rules", 8, () -> x.clearRules());
            due("no rules", 0, () -> x.clearRules());
            due("nothing follows", 1, () -> x.entailed(0));
        }
    }

    /** What is of no meaning is not looked at: second and third of 't', third of 's' and 'i'. */
    private static void ruleOfNoMeaningIsNotLookedAt() {
        for (int off : new int[] {Integer.MIN_VALUE, -1, 0, 7, 8, 12, Integer.MAX_VALUE}) {
            Triplegarth x = Stores.with(0, 0, 1, 2, 0, 2, 1, 3);
            due("t with " + off, 0, () -> x.addRule('t', 1, off, off));
            due("t follows", 2, () -> x.leastProof(0, 0, 1, 3));
            due("and no more", 3, () -> x.entailed(0));
            due("s with " + off, 1, () -> x.addRule('s', 1, 4, off));
            due("i with " + off, 2, () -> x.addRule('i', 1, 5, off));
            due("s follows", true, () -> x.entails(0, 0, 4, 2));
            due("i follows", true, () -> x.entails(0, 2, 5, 0));
            due("and no more by s and i", 9, () -> x.entailed(0));
        }
    }

    /** 's', of each triple with the first predicate, the one with the second predicate instead. */
    private static void ruleS() {
        for (int first = 0; first < 8; first++) {
            int second = 7 - first;
            Triplegarth x = new Triplegarth();
            for (int predicate = 0; predicate < 8; predicate++) {
                x.add(0, 7, predicate, 11);
                x.add(0, 0, predicate, predicate);
            }
            x.remove(0, 7, second, 11);
            x.remove(0, 0, second, second);
            x.addRule('s', first, second, 0);
            due("the number", true, () -> x.entails(0, 7, second, 11));
            int name = first;
            due("the name", true, () -> x.entails(0, 0, second, name));
            due("the first predicate alone", 16, () -> x.entailed(0));
        }
        Triplegarth same = Stores.with(0, 1, 1, 1);
        same.addRule('s', 1, 1, 0);
        due("to itself", 1, () -> same.entailed(0));
        same.addRule('s', 2, 1, 0);
        due("not back", 1, () -> same.entailed(0));
    }

    /** 'i', with subject and object changed for each other, if the object is a name. */
    private static void ruleI() {
        for (int object = 0; object < 12; object++) {
            Triplegarth x = Stores.with(0, 0, 7, object);
            x.addRule('i', 7, 0, 0);
            int o = object;
            boolean isName = object < 8;
            due("entailed from " + o, isName ? 2 : 1, () -> x.entailed(0));
            due("turned from " + o, isName ? true : "throws IllegalArgumentException", () -> x.entails(0, o, 0, 0));
        }
        Triplegarth self = Stores.with(0, 7, 7, 0);
        self.addRule('i', 7, 7, 0);
        due("into its own predicate", true, () -> self.entails(0, 0, 7, 7));
        due("twice turned is there", 1, () -> self.leastProof(0, 7, 7, 0));
        due("two", 2, () -> self.entailed(0));
    }

    /** 't': the object of one is the subject of the other; the one from the outer subject to the outer object. */
    private static void ruleT() {
        for (int end = 0; end < 12; end++) {
            Triplegarth x = Stores.with(0, 6, 0, 7, 0, 7, 0, end, 0, 7, 1, 5, 0, 6, 0, 8);
            x.addRule('t', 0, 0, 0);
            int e = end;
            due("from the outer subject to " + e, true, () -> x.entails(0, 6, 0, e));
            // 6 itself makes a ring, from which 7 is reached from itself and 8 from 7; 7 and 8 are reached already.
            due("all with " + e, end == 6 ? 7 : end == 7 || end == 8 ? 4 : 5, () -> x.entailed(0));
        }
        Triplegarth two = Stores.with(0, 0, 0, 1, 0, 2, 0, 1, 0, 1, 1, 3);
        two.addRule('t', 0, 0, 0);
        due("no object is a subject of the same predicate", 3, () -> two.entailed(0));
    }

    /** 'c' likewise, of one with the first and one with the second predicate, one with the third predicate. */
    private static void ruleC() {
        for (int end = 0; end < 12; end++) {
            Triplegarth x = Stores.with(0, 7, 0, 7, 0, 7, 7, end, 0, 0, 7, 7);
            x.addRule('c', 0, 7, 6);
            int e = end;
            due("behind the first one", 2, () -> x.leastProof(0, 7, 6, e));
            due("not the second one ahead", false, () -> x.entails(0, 0, 6, 7));
            due("one follows", 4, () -> x.entailed(0));
        }
        Triplegarth self = Stores.with(0, 3, 2, 3);
        self.addRule('c', 2, 2, 4);
        due("one with the first and one with the second, the same one", 2, () -> self.leastProof(0, 3, 4, 3));
        Triplegarth number = Stores.with(0, 3, 2, 8, 0, 0, 3, 1, 0, 1, 3, 2);
        number.addRule('c', 2, 3, 4);
        due("a number leads nowhere", 3, () -> number.entailed(0));
    }

    /** By a rule, triples follow from triples of the same graph; the graph 3 has them all. */
    private static void triplesOfTheSameGraph() {
        Triplegarth x = Stores.with(0, 0, 0, 1, 1, 1, 0, 2, 2, 2, 0, 3);
        x.addRule('t', 0, 0, 0);
        for (int graph = 0; graph < 3; graph++) {
            int g = graph;
            due("graph " + g, 1, () -> x.entailed(g));
        }
        due("graph 3", 6, () -> x.entailed(3));
        due("graph 3's proof", 3, () -> x.leastProof(3, 0, 0, 3));
        x.add(2, 1, 0, 2);
        due("two in graph 2", 3, () -> x.entailed(2));
    }

    /** A graph entails its triples and all that follow, over others too, whatever the order of the rules. */
    private static void andAllThatFollow() {
        for (int turn = 0; turn < 2; turn++) {
            Triplegarth x = Stores.with(0, 0, 0, 7);
            due("without rules", 1, () -> x.entailed(0));
            for (int i = 0; i < 7; i++) {
                int predicate = turn == 0 ? i : 6 - i;
                x.addRule('s', predicate, predicate + 1, 0);
            }
            due("over seven others", true, () -> x.entails(0, 0, 7, 7));
            due("eight", 8, () -> x.entailed(0));
            x.addRule('i', 7, 0, 0);
            due("round and turned", true, () -> x.entails(0, 7, 7, 0));
            due("sixteen", 16, () -> x.entailed(0));
            x.remove(0, 0, 0, 7);
            due("nothing from nothing", 0, () -> x.entailed(0));
            due("nothing from nothing in graph 3", 0, () -> x.entailed(3));
        }
        Triplegarth most = new Triplegarth();
        for (int name = 0; name < 8; name++) {
            most.add(0, name, 0, (name + 1) % 8);
        }
        for (int number = 8; number < 12; number++) {
            most.add(1, 0, 0, number);
        }
        most.addRule('t', 0, 0, 0);
        for (int predicate = 0; predicate < 7; predicate++) {
            most.addRule('s', predicate, predicate + 1, 0);
        }
        due("all triples that there are", 768, () -> most.entailed(3));
        due("without the numbers", 512, () -> most.entailed(0));
    }

    /** The least proof of a triple that is there is 1; a proof of one that is there, and follows too, is 1. */
    private static void proofOfOneThatIsThere() {
        Triplegarth x = Stores.with(0, 0, 0, 1, 0, 1, 0, 2, 0, 0, 0, 2, 1, 5, 5, 11);
        x.addRule('t', 0, 0, 0);
        x.addRule('c', 0, 0, 5);
        due("there, and follows", 1, () -> x.leastProof(0, 0, 0, 2));
        due("follows", 2, () -> x.leastProof(0, 0, 5, 2));
        x.add(0, 0, 5, 2);
        due("is there now", 1, () -> x.leastProof(0, 0, 5, 2));
        due("there in another graph", 1, () -> x.leastProof(1, 5, 5, 11));
        due("there in graph 3", 1, () -> x.leastProof(3, 5, 5, 11));
        x.remove(0, 0, 0, 2);
        due("follows alone now", 2, () -> x.leastProof(0, 0, 0, 2));
        x.add(2, 0, 0, 2);
        due("there in graph 2, not in graph 0", 2, () -> x.leastProof(0, 0, 0, 2));
        due("so there in graph 3", 1, () -> x.leastProof(3, 0, 0, 2));
    }

    /** Of one that follows, the least sum of the least proofs of those from which it follows by one rule. */
    private static void leastSum() {
        Triplegarth x = new Triplegarth();
        for (int name = 0; name < 7; name++) {
            x.add(0, name, 0, name + 1);
        }
        x.addRule('t', 0, 0, 0);
        for (int from = 0; from < 8; from++) {
            for (int to = 0; to < 8; to++) {
                int f = from;
                int t = to;
                due(f + " to " + t, f < t ? t - f : "throws NoSuchElementException", () -> x.leastProof(0, f, 0, t));
            }
        }
        x.add(0, 0, 0, 6);
        due("shorter by a new triple", 2, () -> x.leastProof(0, 0, 0, 7));
        x.addRule('c', 0, 0, 1);
        due("the least of three ways", 2, () -> x.leastProof(0, 0, 1, 7));
        due("c from t", 3, () -> x.leastProof(0, 2, 1, 5));
        x.addRule('s', 0, 1, 0);
        due("s is less than c", 1, () -> x.leastProof(0, 0, 1, 1));
        due("the least of s and c", 3, () -> x.leastProof(0, 2, 1, 5));
        Triplegarth round = Stores.with(0, 7, 3, 7);
        round.addRule('c', 3, 3, 4);
        round.addRule('c', 4, 4, 5);
        round.addRule('c', 3, 4, 5);
        due("three is less than four", 3, () -> round.leastProof(0, 7, 5, 7));
    }

    /** By 's' and 'i', the least proof is that of the triple from which it follows, without 1 more. */
    private static void proofsOfSAndI() {
        Triplegarth x = Stores.with(0, 0, 0, 1, 0, 1, 0, 2);
        for (int predicate = 0; predicate < 3; predicate++) {
            x.addRule('s', predicate, predicate + 1, 0);
            x.addRule('i', predicate, predicate + 4, 0);
        }
        x.addRule('t', 0, 0, 0);
        for (int predicate = 0; predicate < 4; predicate++) {
            int p = predicate;
            due("1 by s", 1, () -> x.leastProof(0, 0, p, 1));
            due("2 by s", 2, () -> x.leastProof(0, 0, p, 2));
        }
        for (int predicate = 4; predicate < 7; predicate++) {
            int p = predicate;
            due("1 by i", 1, () -> x.leastProof(0, 2, p, 1));
            due("2 by i", 2, () -> x.leastProof(0, 2, p, 0));
        }
    }

    /** A proof doubles at most by each rule: seven doublings, then twice that of the last one. */
    private static void proofsOfDoubling() {
        Triplegarth x = Stores.with(0, 0, 0, 0);
        for (int predicate = 0; predicate < 7; predicate++) {
            x.addRule('c', predicate, predicate, predicate + 1);
            int p = predicate;
            due("doubled to " + p, 2 << p, () -> x.leastProof(0, 0, p + 1, 0));
        }
        due("their sum", 255.0 / 8.0, () -> x.meanProof());
    }

    /** Proofs are those of now: after each change, and no sooner. */
    private static void proofsAfterChanges() {
        Triplegarth x = Stores.with(0, 0, 0, 1, 0, 1, 0, 2);
        due("no rule", false, () -> x.entails(0, 0, 0, 2));
        x.addRule('t', 0, 0, 0);
        due("a rule", true, () -> x.entails(0, 0, 0, 2));
        due("in graph 3 too", true, () -> x.entails(3, 0, 0, 2));
        x.clearRules();
        due("no rule again", false, () -> x.entails(0, 0, 0, 2));
        due("in graph 3 neither", false, () -> x.entails(3, 0, 0, 2));
        x.addRule('c', 0, 0, 0);
        due("c of one predicate is t", true, () -> x.entails(0, 0, 0, 2));
        x.remove(0, 1, 0, 2);
        due("half of it gone", false, () -> x.entails(0, 0, 0, 2));
        x.pattern(0, V0, V1, V2);
        x.addRows(0, 0, 1, V1, 3);
        due("a triple of a row", 2, () -> x.leastProof(3, 0, 0, 3));
        x.removeRows(0, 0, 0, V1, 1);
        due("taken by a row", 1, () -> x.entailed(3));
    }

    /** Sets how triples are looked at; at first not; returns whether so before. */
    private static void setEntailedSaysHowItWas() {
        Triplegarth x = new Triplegarth();
        boolean was = false;
        for (int i = 0; i < 16; i++) {
            boolean isSo = (i * i / 3) % 2 == 1;
            due("before the call " + i, was, () -> x.setEntailed(isSo));
            was = isSo;
        }
    }

    /** An object is used for at most 512 calls: the 512th answers as the first one. */
    private static void usedFor512Calls() {
        Triplegarth x = new Triplegarth();
        x.pattern(3, V0, V1, V2);
        for (int call = 2; call < 511; call++) {
            int c = call;
            if (call % 3 == 0) {
                due("call " + c, true, () -> x.add(1, 7, 7, c / 3 % 2 * 11));
            } else if (call % 3 == 1) {
                due("call " + c, c < 3 ? 0L : 1L, () -> x.rows(0));
            } else {
                due("call " + c, c > 3, () -> x.remove(1, 7, 7, (c - 2) / 3 % 2 * 11));
            }
        }
        due("call 511", true, () -> x.add(1, 7, 6, 11));
        due("call 512", 2, () -> x.size(3));
    }

    /** The sum of many triples wraps around as longs do. */
    private static void checksumWrapsAround() {
        Triplegarth x = new Triplegarth();
        BigInteger sum = BigInteger.ZERO;
        for (int graph = 0; graph < 3; graph++) {
            for (int i = 0; i < 20; i++) {
                int subject = i / 3;
                int object = 4 * (i % 3) + graph;
                x.add(graph, subject, 7, object);
                long more = graph + 3 * subject + 35 + 7 * object;
                sum = sum.multiply(BigInteger.valueOf(31)).add(BigInteger.valueOf(more));
                long due = sum.longValue();
                due("checksum of " + (20 * graph + i + 1), due, () -> x.checksum());
            }
        }
        due("60 triples", 60, () -> x.size(0) + x.size(1) + x.size(2));
    }

    /** For each triple, by rising graphs, subjects, predicates and objects, the first and the last ones too. */
    private static void checksumByRisingGraphs() {
        due("0 at first", 0L, () -> new Triplegarth().checksum());
        due("the first triple", 0L, () -> Stores.with(0, 0, 0, 0).checksum());
        due("the first of graph 1", 1L, () -> Stores.with(1, 0, 0, 0).checksum());
        due("the last triple", 2L + 21 + 35 + 77, () -> Stores.with(2, 7, 7, 11).checksum());
        due("the graph foremost", 31L * 21 + 1, () -> Stores.with(1, 0, 0, 0, 0, 7, 0, 0).checksum());
        due("then the subject", 31L * 35 + 3, () -> Stores.with(0, 1, 0, 0, 0, 0, 7, 0).checksum());
        due("then the predicate", 31L * 77 + 5, () -> Stores.with(0, 0, 1, 0, 0, 0, 0, 11).checksum());
        due("then the object", 31L * 7 + 14, () -> Stores.with(0, 0, 0, 2, 0, 0, 0, 1).checksum());
        due("the same in the graphs 0 and 2", 31L * 133 + 135, () -> Stores.with(2, 7, 7, 11, 0, 7, 7, 11).checksum());
    }

    /** The number of its triples divided by that of those it entails, both converted to float. */
    private static void thereShareAsFloats() {
        Triplegarth x = Stores.with(0, 0, 0, 8);
        due("one of one", 1.0f, () -> x.thereShare());
        for (int predicate = 1; predicate < 8; predicate++) {
            x.addRule('s', 0, predicate, 0);
            float due = (float) 1 / (float) (predicate + 1);
            due("one of " + (predicate + 1), due, () -> x.thereShare());
        }
        x.add(1, 0, 0, 8);
        due("each once", 0.125f, () -> x.thereShare());
        x.add(1, 0, 7, 8);
        due("two of eight", 0.25f, () -> x.thereShare());
        x.setEntailed(true);
        due("whatever is set", 0.25f, () -> x.thereShare());
    }

    /** The sum of the least proofs divided by their number, both converted to double. */
    private static void meanProofAsDoubles() {
        Triplegarth x = new Triplegarth();
        x.addRule('t', 0, 0, 0);
        int sum = 0;
        int count = 0;
        for (int name = 0; name < 7; name++) {
            x.add(name % 3, name, 0, name + 1);
            for (int length = 1; length <= name + 1; length++) {
                sum += length;
                count++;
            }
            double due = (double) sum / (double) count;
            due("chain to " + (name + 1), due, () -> x.meanProof());
        }
        x.add(2, 0, 0, 1);
        double due = (double) sum / (double) count;
        due("each once", due, () -> x.meanProof());
    }

    /** An ArithmeticException if there are no triples: at first, and after the last one went, with rules too. */
    private static void noTriplesNoFigures() {
        Triplegarth x = new Triplegarth();
        x.addRule('t', 0, 0, 0);
        for (int graph = 0; graph < 3; graph++) {
            int g = graph;
            due("no share", "throws ArithmeticException", () -> x.thereShare());
            due("no mean", "throws ArithmeticException", () -> x.meanProof());
            x.add(g, 0, 0, 0);
            due("one share", 1.0f, () -> x.thereShare());
            due("one mean", 1.0, () -> x.meanProof());
            x.remove(g, 0, 0, 0);
        }
        due("no share again", "throws ArithmeticException", () -> x.thereShare());
        due("no mean again", "throws ArithmeticException", () -> x.meanProof());
        x.path(3, V0, 0, V1, true);
        due("rows are no triples", "throws ArithmeticException", () -> x.meanProof());
    }
}
