import java.lang.reflect.Constructor;
import java.lang.reflect.Method;
import java.math.BigInteger;
import java.util.ArrayList;
import java.util.Arrays;
import java.util.Collections;
import java.util.List;
import java.util.Random;

/** Proofs above an int, by the face against the Model, and above a long, which no store that was tried reaches. */
public final class LongProofTest {
    private static final int TRIPLES = 8 * 8 * 12;
    private static final Check CHECK = new Check();

    // Found by climbing over stores and rules for the greatest least proof; it is above 2 to the 41.
    private static final String CLIMBED_RULES = "c552 c064 c036 c220 c115 c741 i470 c603";
    private static final String CLIMBED_TRIPLES = "033 137 231 330 342 430 534 635 736";
    // Loops that are doubled four times, and carried on over eight names.
    private static final String CARRIED_RULES = "c004 c445 c556 c667 c173 c320";
    private static final String CARRIED_TRIPLES = "000 110 211 312 413 514 615 716 021 122 223 324 425 526 627";

    public static void main(String[] args) throws ReflectiveOperationException {
        aboveAnInt();
        for (int seed = 0; seed < 16; seed++) {
            play(new Random(seed));
        }
        doubled();
        for (int seed = 0; seed < 6; seed++) {
            offered(new Random(seed));
        }
        CHECK.finish("LongProofTest");
    }

    private static void aboveAnInt() {
        Triplegarth x = new Triplegarth();
        fill(x, CARRIED_RULES, CARRIED_TRIPLES);
        CHECK.due("an int", 1216907400, () -> x.leastProof(0, 7, 5, 7));
        CHECK.due("no int: the greatest one", Integer.MAX_VALUE, () -> x.leastProof(0, 7, 6, 7));
        CHECK.due("no int: the greatest one", Integer.MAX_VALUE, () -> x.leastProof(3, 7, 7, 7));
        CHECK.due("entailed", true, () -> x.entails(3, 7, 7, 7));
        CHECK.due("the mean", 10384276454.0 / 61.0, () -> x.meanProof());
        x.add(1, 7, 6, 7);
        CHECK.due("as it was in graph 0", Integer.MAX_VALUE, () -> x.leastProof(0, 7, 6, 7));
        CHECK.due("there", 1, () -> x.leastProof(3, 7, 6, 7));
        CHECK.due("twice one that is there", 2, () -> x.leastProof(3, 7, 7, 7));
        x.remove(1, 7, 6, 7);
        CHECK.due("the mean again", 10384276454.0 / 61.0, () -> x.meanProof());
        x.remove(0, 0, 0, 0);
        CHECK.due("no loops", 1.0, () -> x.meanProof());
    }

    private static void fill(Triplegarth x, String rules, String triples) {
        for (String rule : rules.split(" ")) {
            x.addRule(rule.charAt(0), rule.charAt(1) - '0', rule.charAt(2) - '0', rule.charAt(3) - '0');
        }
        for (String triple : triples.split(" ")) {
            x.add(0, triple.charAt(0) - '0', triple.charAt(1) - '0', triple.charAt(2) - '0');
        }
    }

    private static List<Integer> shuffled(Random random) {
        List<Integer> names = new ArrayList<>(Arrays.asList(0, 1, 2, 3, 4, 5, 6, 7));
        Collections.shuffle(names, random);
        return names;
    }

    /** A store with long proofs under other names, some of it left out, and some put to it. */
    private static void play(Random random) {
        Triplegarth real = new Triplegarth();
        Model model = new Model();
        boolean isClimbed = random.nextBoolean();
        List<Integer> names = shuffled(random);
        List<Integer> predicates = shuffled(random);
        List<String> rules = new ArrayList<>(Arrays.asList((isClimbed ? CLIMBED_RULES : CARRIED_RULES).split(" ")));
        Collections.shuffle(rules, random);
        for (String rule : rules) {
            int first = predicates.get(rule.charAt(1) - '0');
            int second = predicates.get(rule.charAt(2) - '0');
            int third = predicates.get(rule.charAt(3) - '0');
            real.addRule(rule.charAt(0), first, second, third);
            model.addRule(rule.charAt(0), first, second, third);
        }
        boolean isOneGraph = random.nextBoolean();
        for (String triple : (isClimbed ? CLIMBED_TRIPLES : CARRIED_TRIPLES).split(" ")) {
            if (random.nextInt(60) > 0) {
                put(real, model, isOneGraph ? 1 : random.nextInt(3), names.get(triple.charAt(0) - '0'),
                        predicates.get(triple.charAt(1) - '0'), names.get(triple.charAt(2) - '0'));
            }
        }
        for (int more = random.nextInt(3); more > 0; more--) {
            put(real, model, random.nextInt(3), random.nextInt(8), random.nextInt(8), random.nextInt(12));
        }
        hold(random, real, model);
    }

    private static void put(Triplegarth real, Model model, int graph, int subject, int predicate, int object) {
        real.add(graph, subject, predicate, object);
        model.add(graph, subject, predicate, object);
    }

    private static void hold(Random random, Triplegarth real, Model model) {
        CHECK.due("meanProof", model.meanProof(), () -> real.meanProof());
        for (int graph = 0; graph < 4; graph++) {
            int one = graph;
            CHECK.due("entailed " + graph, model.entailed(graph), () -> real.entailed(one));
        }
        for (int asked = 0; asked < 5; asked++) {
            int triple = anEntailed(random, real);
            int s = triple / 96;
            int p = triple / 12 % 8;
            int o = triple % 12;
            CHECK.due("leastProof 3, " + s + ", " + p + ", " + o, model.leastProof(3, s, p, o),
                    () -> real.leastProof(3, s, p, o));
        }
    }

    private static int anEntailed(Random random, Triplegarth real) {
        int start = random.nextInt(TRIPLES);
        for (int step = 0; step < TRIPLES; step++) {
            int triple = (start + step) % TRIPLES;
            if (real.entails(3, triple / 96, triple / 12 % 8, triple % 12)) {
                return triple;
            }
        }
        throw new IllegalStateException("nothing is entailed");
    }

    private static Object proofs() throws ReflectiveOperationException {
        for (Class<?> inside : Triplegarth.class.getDeclaredClasses()) {
            if (inside.getSimpleName().equals("Proofs")) {
                Constructor<?> constructor = inside.getDeclaredConstructor();
                constructor.setAccessible(true);
                return constructor.newInstance();
            }
        }
        throw new IllegalStateException("no class Proofs");
    }

    private static Object call(Object proofs, String name, Object... given) throws ReflectiveOperationException {
        for (Method method : proofs.getClass().getDeclaredMethods()) {
            if (method.getName().equals(name)) {
                method.setAccessible(true);
                return method.invoke(proofs, given);
            }
        }
        throw new IllegalStateException("no method " + name);
    }

    private static boolean[] first(int count) {
        boolean[] there = new boolean[TRIPLES];
        Arrays.fill(there, 0, count, true);
        return there;
    }

    private static void same(String what, Object want, Object got) {
        CHECK.due(what, want, () -> got);
    }

    /** The longest proofs that there can be: each triple is proven by the one ahead of it with itself. */
    private static void doubled() throws ReflectiveOperationException {
        Object proofs = proofs();
        for (int time = 0; time < 2; time++) {
            call(proofs, "begin", first(1));
            BigInteger sum = BigInteger.ONE;
            for (int triple = 1; triple < TRIPLES; triple++) {
                same("new " + triple, true, call(proofs, "offer", triple, triple - 1, triple - 1));
                same("not less " + triple, false, call(proofs, "offer", triple, triple - 1, triple - 1));
                same("not less " + triple, false, call(proofs, "offer", triple - 1, triple, -1));
                sum = sum.add(BigInteger.ONE.shiftLeft(triple));
                same("sum " + triple, sum.doubleValue(), call(proofs, "sum"));
                same("int " + triple, triple < 31 ? 1 << triple : Integer.MAX_VALUE, call(proofs, "asInt", triple));
            }
            same("count", TRIPLES, call(proofs, "count"));
            same("the longest is lowered", true, call(proofs, "offer", TRIPLES - 1, 0, 1));
            same("to three", 3, call(proofs, "asInt", TRIPLES - 1));
        }
    }

    /** Offers of any two for any one, held against BigInteger. */
    private static void offered(Random random) throws ReflectiveOperationException {
        Object proofs = proofs();
        BigInteger[] model = new BigInteger[TRIPLES];
        int there = 1 + random.nextInt(3);
        call(proofs, "begin", first(there));
        Arrays.fill(model, 0, there, BigInteger.ONE);
        for (int last = there; last < TRIPLES; last += random.nextInt(2)) {
            int one = Math.max(0, last - 1 - random.nextInt(4));
            int other = random.nextInt(5) == 0 ? -1 : Math.max(0, last - 1 - random.nextInt(4));
            int triple = random.nextInt(3) == 0 ? random.nextInt(last) : last;
            BigInteger sum = other < 0 ? model[one] : model[one].add(model[other]);
            boolean isLess = model[triple] == null || sum.compareTo(model[triple]) < 0;
            same("offer " + triple, isLess, call(proofs, "offer", triple, one, other));
            model[triple] = isLess ? sum : model[triple];
            if (model[last] == null) {
                same("new", true, call(proofs, "offer", last, one, other));
                model[last] = sum;
            }
            BigInteger all = Arrays.stream(model, 0, last + 1).reduce(BigInteger.ZERO, BigInteger::add);
            same("sum up to " + last, all.doubleValue(), call(proofs, "sum"));
        }
    }
}
