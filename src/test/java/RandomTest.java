import java.util.Random;

/** Long runs of calls, each answer held against the one of the Model. */
public final class RandomTest {
    private static final String[] CALLS = {"add", "add", "add", "add", "remove", "size", "addRule", "clearRules",
        "entails", "leastProof", "entailed", "setEntailed", "pattern", "pattern", "path", "both", "both", "both",
        "filter", "single", "rows", "rows", "rowsAnew", "rowsAnew", "row", "row", "different", "addRows", "removeRows",
        "addShape", "faults", "faultAt", "checksum", "thereShare", "meanProof", "isSound"};

    private final Check check;
    private final Random random;
    private final Triplegarth real = new Triplegarth();
    private final Model model = new Model();
    private final String run;
    private final int names;
    private final int off;

    private RandomTest(Check check, int seed) {
        this.check = check;
        this.random = new Random(seed);
        this.run = "run " + seed + ": ";
        // Few names give dense graphs, with long proofs, rings and rows that go together.
        this.names = 2 + seed % 7;
        // In some runs nearly every argument is right, in others many are wrong.
        this.off = seed % 3 == 0 ? 12 : 200;
    }

    public static void main(String[] args) {
        int runs = args.length > 0 ? Integer.parseInt(args[0]) : 150;
        Check check = new Check();
        for (int seed = 0; seed < runs; seed++) {
            new RandomTest(check, seed).play();
        }
        check.finish("RandomTest");
    }

    private void play() {
        for (int call = 0; call < 512; call++) {
            turn(CALLS[random.nextInt(CALLS.length)]);
        }
    }

    private int below(int bound) {
        if (random.nextInt(off) == 0) {
            int[] wrong = {-1, bound, bound + 1, Integer.MIN_VALUE, Integer.MAX_VALUE, 8, 12, 20};
            return wrong[random.nextInt(wrong.length)];
        }
        return random.nextInt(bound);
    }

    private int name() {
        return random.nextInt(off) == 0 ? below(8) : random.nextInt(names);
    }

    private int term() {
        return random.nextInt(3) == 0 ? 8 + below(4) : name();
    }

    private int place() {
        if (random.nextInt(off) == 0) {
            return random.nextInt(30) - 3;
        }
        return random.nextInt(3) == 0 ? term() : 20 + random.nextInt(3);
    }

    private char of(String kinds) {
        return random.nextInt(off) == 0 ? (char) random.nextInt(256) : kinds.charAt(random.nextInt(kinds.length()));
    }

    private int query() {
        return below(random.nextBoolean() ? 20 : 6);
    }

    private void same(String call, Check.Call real, Check.Call model) {
        check.due(run + call, Check.said(model), real);
    }

    private void turn(String call) {
        int g = below(4);
        int own = below(3);
        int q = query();
        switch (call) {
            case "add":
            case "remove":
            case "entails":
            case "leastProof":
                turnTriple(call, own, g, name(), name(), term());
                break;
            case "pattern":
            case "path":
            case "addRows":
            case "removeRows":
                turnPlaces(call, random.nextBoolean() ? 3 : g, q, own);
                break;
            case "both":
            case "filter":
            case "single":
                turnQuery(call, q, query());
                break;
            case "addRule":
            case "addShape":
                turnRule(call, g);
                break;
            default:
                ask(call, g, q);
        }
    }

    private void turnTriple(String call, int own, int g, int s, int p, int o) {
        String told = call + "(" + own + " or " + g + ", " + s + ", " + p + ", " + o + ")";
        if (call.equals("add")) {
            same(told, () -> real.add(own, s, p, o), () -> model.add(own, s, p, o));
        } else if (call.equals("remove")) {
            same(told, () -> real.remove(own, s, p, o), () -> model.remove(own, s, p, o));
        } else if (call.equals("entails")) {
            same(told, () -> real.entails(g, s, p, o), () -> model.entails(g, s, p, o));
        } else {
            same(told, () -> real.leastProof(g, s, p, o), () -> model.leastProof(g, s, p, o));
        }
    }

    private void turnPlaces(String call, int g, int q, int own) {
        // Three terms make the row that gives no variable a term.
        boolean isTold = random.nextInt(6) == 0;
        int s = isTold ? 0 : place();
        int p = isTold ? 0 : call.equals("path") ? name() : place();
        int o = isTold ? random.nextInt(2) : place();
        boolean isAny = random.nextBoolean();
        String told = call + "(" + g + " or " + q + ", " + own + ", " + s + ", " + p + ", " + o + ", " + isAny + ")";
        if (call.equals("pattern")) {
            same(told, () -> real.pattern(g, s, p, o), () -> model.pattern(g, s, p, o));
        } else if (call.equals("path")) {
            same(told, () -> real.path(g, s, p, o, isAny), () -> model.path(g, s, p, o, isAny));
        } else if (call.equals("addRows")) {
            same(told, () -> real.addRows(q, own, s, p, o), () -> model.addRows(q, own, s, p, o));
        } else {
            same(told, () -> real.removeRows(q, own, s, p, o), () -> model.removeRows(q, own, s, p, o));
        }
    }

    private void turnQuery(String call, int q, int other) {
        char kind = of("jomu");
        char test = of("=!<b");
        int first = place();
        int second = place();
        String told = call + "(" + q + ", " + other + ", " + kind + test + ", " + first + ", " + second + ")";
        if (call.equals("both")) {
            same(told, () -> real.both(kind, q, other), () -> model.both(kind, q, other));
        } else if (call.equals("filter")) {
            same(told, () -> real.filter(q, test, first, second), () -> model.filter(q, test, first, second));
        } else {
            same(told, () -> real.single(q), () -> model.single(q));
        }
    }

    private void turnRule(String call, int g) {
        char kind = of("sitc");
        int first = name();
        int second = name();
        int third = name();
        int least = below(3);
        int greatest = least + below(3);
        String told = call + "(" + kind + ", " + g + ", " + first + ", " + second + ", " + third + ", " + least + ", "
                + greatest + ")";
        if (call.equals("addRule")) {
            same(told, () -> real.addRule(kind, first, second, third),
                    () -> model.addRule(kind, first, second, third));
        } else {
            same(told, () -> real.addShape(g, first, second, least, greatest),
                    () -> model.addShape(g, first, second, least, greatest));
        }
    }

    private void ask(String call, int g, int q) {
        int index = below(random.nextBoolean() ? 5 : 100);
        int variable = below(3);
        boolean isEntailed = random.nextBoolean();
        String told = call + "(" + g + " or " + q + ", " + index + ", " + variable + ", " + isEntailed + ")";
        switch (call) {
            case "size": same(told, () -> real.size(g), () -> model.size(g)); break;
            case "entailed": same(told, () -> real.entailed(g), () -> model.entailed(g)); break;
            case "setEntailed":
                same(told, () -> real.setEntailed(isEntailed), () -> model.setEntailed(isEntailed));
                break;
            case "clearRules":
                if (random.nextInt(4) == 0) {
                    same(told, () -> real.clearRules(), () -> model.clearRules());
                }
                break;
            case "rows": same(told, () -> real.rows(q), () -> model.rows(q)); break;
            case "rowsAnew": same(told, () -> real.rowsAnew(q), () -> model.rows(q)); break;
            case "row": same(told, () -> real.row(q, index, variable), () -> model.row(q, index, variable)); break;
            case "different": same(told, () -> real.different(q), () -> model.different(q)); break;
            case "faults": same(told, () -> real.faults(), () -> model.faults()); break;
            case "faultAt": same(told, () -> real.faultAt(index), () -> model.faultAt(index)); break;
            case "checksum": same(told, () -> real.checksum(), () -> model.checksum()); break;
            case "thereShare": same(told, () -> real.thereShare(), () -> model.thereShare()); break;
            case "meanProof": same(told, () -> real.meanProof(), () -> model.meanProof()); break;
            default: same("isSound()", () -> real.isSound(), () -> true);
        }
    }
}
