import java.math.BigInteger;
import java.util.ArrayList;
import java.util.Arrays;
import java.util.Comparator;
import java.util.HashSet;
import java.util.List;
import java.util.Map;
import java.util.NoSuchElementException;
import java.util.Set;
import java.util.TreeMap;
import java.util.TreeSet;

/** The document told again in the plainest Java, with sets and maps of lists; nothing is kept between calls. */
final class Model {
    private static final Comparator<List<Integer>> ORDER = Model::compare;

    private final List<Set<List<Integer>>> graphs = new ArrayList<>();
    private final List<int[]> rules = new ArrayList<>();
    private final List<Object[]> queries = new ArrayList<>();
    private final List<int[]> shapes = new ArrayList<>();
    private boolean isEntailed = false;

    Model() {
        for (int graph = 0; graph < 3; graph++) {
            graphs.add(new TreeSet<>(ORDER));
        }
    }

    private static int compare(List<Integer> one, List<Integer> other) {
        for (int i = 0; i < one.size(); i++) {
            int order = Integer.compare(one.get(i), other.get(i));
            if (order != 0) {
                return order;
            }
        }
        return 0;
    }

    private static void need(boolean isSo, RuntimeException otherwise) {
        if (!isSo) {
            throw otherwise;
        }
    }

    private static IllegalArgumentException illegal() {
        return new IllegalArgumentException();
    }

    private static boolean in(int number, int least, int greatest) {
        return least <= number && number <= greatest;
    }

    private static boolean isTriple(int subject, int predicate, int object) {
        return in(subject, 0, 7) && in(predicate, 0, 7) && in(object, 0, 11);
    }

    private static boolean arePlaces(int... places) {
        return Arrays.stream(places).allMatch(place -> in(place, 0, 11) || in(place, 20, 22));
    }

    private Set<List<Integer>> there(int graph) {
        if (graph < 3) {
            return graphs.get(graph);
        }
        Set<List<Integer>> all = new TreeSet<>(ORDER);
        graphs.forEach(all::addAll);
        return all;
    }

    /** Least proofs by settling the smallest one again and again. */
    private Map<List<Integer>, BigInteger> proofs(int graph) {
        Map<List<Integer>, BigInteger> open = new TreeMap<>(ORDER);
        Map<List<Integer>, BigInteger> settled = new TreeMap<>(ORDER);
        there(graph).forEach(triple -> open.put(triple, BigInteger.ONE));
        while (!open.isEmpty()) {
            List<Integer> next = null;
            for (List<Integer> triple : open.keySet()) {
                next = next == null || open.get(triple).compareTo(open.get(next)) < 0 ? triple : next;
            }
            settled.put(next, open.remove(next));
            for (int[] rule : rules) {
                follow(rule, next, settled, open);
            }
        }
        return settled;
    }

    private static void follow(int[] rule, List<Integer> next, Map<List<Integer>, BigInteger> settled,
            Map<List<Integer>, BigInteger> open) {
        int subject = next.get(0);
        int object = next.get(2);
        if (rule[0] == 's' && next.get(1) == rule[1]) {
            offer(List.of(subject, rule[2], object), settled.get(next), settled, open);
        }
        if (rule[0] == 'i' && next.get(1) == rule[1] && object < 8) {
            offer(List.of(object, rule[2], subject), settled.get(next), settled, open);
        }
        if (rule[0] == 't' || rule[0] == 'c') {
            int second = rule[0] == 't' ? rule[1] : rule[2];
            int third = rule[0] == 't' ? rule[1] : rule[3];
            for (List<Integer> other : new ArrayList<>(settled.keySet())) {
                BigInteger sum = settled.get(next).add(settled.get(other));
                if (next.get(1) == rule[1] && other.get(1) == second && other.get(0) == object) {
                    offer(List.of(subject, third, other.get(2)), sum, settled, open);
                }
                if (other.get(1) == rule[1] && next.get(1) == second && other.get(2) == subject) {
                    offer(List.of(other.get(0), third, object), sum, settled, open);
                }
            }
        }
    }

    private static void offer(List<Integer> triple, BigInteger proof, Map<List<Integer>, BigInteger> settled,
            Map<List<Integer>, BigInteger> open) {
        if (!settled.containsKey(triple)) {
            open.merge(triple, proof, BigInteger::min);
        }
    }

    private Set<List<Integer>> seen(int graph) {
        return isEntailed ? proofs(graph).keySet() : there(graph);
    }

    boolean add(int graph, int subject, int predicate, int object) {
        need(in(graph, 0, 2) && isTriple(subject, predicate, object), illegal());
        List<Integer> triple = List.of(subject, predicate, object);
        need(graphs.get(graph).contains(triple) || total() < 60, new IllegalStateException());
        return graphs.get(graph).add(triple);
    }

    private int total() {
        return graphs.stream().mapToInt(Set::size).sum();
    }

    boolean remove(int graph, int subject, int predicate, int object) {
        need(in(graph, 0, 2) && isTriple(subject, predicate, object), illegal());
        return graphs.get(graph).remove(List.of(subject, predicate, object));
    }

    int size(int graph) {
        need(in(graph, 0, 3), illegal());
        return there(graph).size();
    }

    int addRule(char kind, int first, int second, int third) {
        need("sitc".indexOf(kind) >= 0 && in(first, 0, 7), illegal());
        need(kind == 't' || in(second, 0, 7), illegal());
        need(kind != 'c' || in(third, 0, 7), illegal());
        need(rules.size() < 8, new IllegalStateException());
        rules.add(new int[] {kind, first, second, third});
        return rules.size() - 1;
    }

    int clearRules() {
        int count = rules.size();
        rules.clear();
        return count;
    }

    boolean entails(int graph, int subject, int predicate, int object) {
        need(in(graph, 0, 3) && isTriple(subject, predicate, object), illegal());
        return proofs(graph).containsKey(List.of(subject, predicate, object));
    }

    int leastProof(int graph, int subject, int predicate, int object) {
        need(entails(graph, subject, predicate, object), new NoSuchElementException());
        BigInteger proof = proofs(graph).get(List.of(subject, predicate, object));
        return proof.min(BigInteger.valueOf(Integer.MAX_VALUE)).intValueExact();
    }

    int entailed(int graph) {
        need(in(graph, 0, 3), illegal());
        return proofs(graph).size();
    }

    boolean setEntailed(boolean isEntailed) {
        boolean was = this.isEntailed;
        this.isEntailed = isEntailed;
        return was;
    }

    private int made(Object... query) {
        need(queries.size() < 20, new IllegalStateException());
        queries.add(query);
        return queries.size() - 1;
    }

    private void needQuery(int query) {
        need(in(query, 0, queries.size() - 1), new IndexOutOfBoundsException());
    }

    int pattern(int graph, int subject, int predicate, int object) {
        need(in(graph, 0, 3) && arePlaces(subject, predicate, object), illegal());
        return made("pattern", graph, subject, predicate, object);
    }

    int path(int graph, int subject, int predicate, int object, boolean isAny) {
        need(in(graph, 0, 3) && arePlaces(subject, predicate, object) && in(predicate, 0, 7), illegal());
        return made("path", graph, subject, predicate, object, isAny);
    }

    int both(char kind, int first, int second) {
        need("jomu".indexOf(kind) >= 0, illegal());
        needQuery(first);
        needQuery(second);
        return made("" + kind, first, second);
    }

    int filter(int query, char test, int first, int second) {
        needQuery(query);
        need("=!<b".indexOf(test) >= 0 && arePlaces(first) && (test == 'b' || arePlaces(second)), illegal());
        return made("filter", query, test, first, second);
    }

    int single(int query) {
        needQuery(query);
        return made("single", query);
    }

    private List<Map<List<Integer>, Long>> results(int last) {
        List<Map<List<Integer>, Long>> results = new ArrayList<>();
        for (int number = 0; number <= last; number++) {
            Map<List<Integer>, Long> result = result(queries.get(number), results);
            result.replaceAll((row, times) -> Math.min(times, 1000000L));
            results.add(result);
        }
        return results;
    }

    private Map<List<Integer>, Long> result(Object[] query, List<Map<List<Integer>, Long>> results) {
        Map<List<Integer>, Long> result = new TreeMap<>(ORDER);
        switch ((String) query[0]) {
            case "pattern":
                for (List<Integer> triple : seen((Integer) query[1])) {
                    told(new int[] {(Integer) query[2], (Integer) query[3], (Integer) query[4]}, triple, result);
                }
                break;
            case "path":
                for (List<Integer> pair : pairs((Integer) query[1], (Integer) query[3], (Boolean) query[5])) {
                    told(new int[] {(Integer) query[2], (Integer) query[4]}, pair, result);
                }
                break;
            case "filter":
                results.get((Integer) query[1]).forEach((row, times) -> {
                    if (holds((Character) query[2], termOf(row, (Integer) query[3]), row, (Integer) query[4])) {
                        result.put(row, times);
                    }
                });
                break;
            case "single":
                results.get((Integer) query[1]).keySet().forEach(row -> result.put(row, 1L));
                break;
            default:
                pair((String) query[0], results.get((Integer) query[1]), results.get((Integer) query[2]), result);
        }
        return result;
    }

    private static void told(int[] places, List<Integer> terms, Map<List<Integer>, Long> result) {
        Integer[] row = {-1, -1, -1};
        for (int i = 0; i < places.length; i++) {
            int term = terms.get(i);
            if (places[i] < 20 && places[i] != term) {
                return;
            }
            if (places[i] >= 20) {
                int variable = places[i] - 20;
                if (row[variable] >= 0 && row[variable] != term) {
                    return;
                }
                row[variable] = term;
            }
        }
        result.put(Arrays.asList(row), 1L);
    }

    private Set<List<Integer>> pairs(int graph, int predicate, boolean isAny) {
        Set<List<Integer>> pairs = new TreeSet<>(ORDER);
        for (List<Integer> triple : seen(graph)) {
            if (triple.get(1) == predicate) {
                pairs.add(List.of(triple.get(0), triple.get(2)));
            }
        }
        boolean isMore = true;
        while (isMore) {
            Set<List<Integer>> more = new HashSet<>();
            for (List<Integer> one : pairs) {
                for (List<Integer> other : pairs) {
                    if (one.get(1).equals(other.get(0))) {
                        more.add(List.of(one.get(0), other.get(1)));
                    }
                }
            }
            isMore = pairs.addAll(more);
        }
        for (int name = 0; isAny && name < 8; name++) {
            pairs.add(List.of(name, name));
        }
        return pairs;
    }

    private static int termOf(List<Integer> row, int place) {
        return place < 20 ? place : row.get(place - 20);
    }

    private static boolean holds(char test, int first, List<Integer> row, int secondPlace) {
        if (test == 'b') {
            return first >= 0;
        }
        int second = termOf(row, secondPlace);
        if (first < 0 || second < 0) {
            return false;
        }
        if (test == '<') {
            return first >= 8 && second >= 8 && first - 8 < second - 8;
        }
        return test == '=' ? first == second : first != second;
    }

    private static void pair(String kind, Map<List<Integer>, Long> first, Map<List<Integer>, Long> second,
            Map<List<Integer>, Long> result) {
        if (kind.equals("u")) {
            first.forEach((row, times) -> result.merge(row, times, Long::sum));
            second.forEach((row, times) -> result.merge(row, times, Long::sum));
            return;
        }
        for (List<Integer> one : first.keySet()) {
            boolean isMet = false;
            for (List<Integer> other : second.keySet()) {
                if (goTogether(one, other)) {
                    isMet = isMet || !kind.equals("m") || haveInCommon(one, other);
                    if (!kind.equals("m")) {
                        result.merge(joined(one, other), first.get(one) * second.get(other), Long::sum);
                    }
                }
            }
            if (!isMet && !kind.equals("j")) {
                result.merge(one, first.get(one), Long::sum);
            }
        }
    }

    private static boolean goTogether(List<Integer> one, List<Integer> other) {
        for (int i = 0; i < 3; i++) {
            if (one.get(i) >= 0 && other.get(i) >= 0 && !one.get(i).equals(other.get(i))) {
                return false;
            }
        }
        return true;
    }

    private static boolean haveInCommon(List<Integer> one, List<Integer> other) {
        for (int i = 0; i < 3; i++) {
            if (one.get(i) >= 0 && other.get(i) >= 0) {
                return true;
            }
        }
        return false;
    }

    private static List<Integer> joined(List<Integer> one, List<Integer> other) {
        List<Integer> row = new ArrayList<>();
        for (int i = 0; i < 3; i++) {
            row.add(one.get(i) >= 0 ? one.get(i) : other.get(i));
        }
        return row;
    }

    private Map<List<Integer>, Long> asked(int query) {
        needQuery(query);
        return results(query).get(query);
    }

    long rows(int query) {
        return asked(query).values().stream().mapToLong(times -> times).sum();
    }

    int row(int query, int index, int variable) {
        needQuery(query);
        need(in(variable, 0, 2), illegal());
        need(index >= 0, new NoSuchElementException());
        long left = index;
        for (Map.Entry<List<Integer>, Long> entry : asked(query).entrySet()) {
            if (left < entry.getValue()) {
                return entry.getKey().get(variable);
            }
            left -= entry.getValue();
        }
        throw new NoSuchElementException();
    }

    int different(int query) {
        return asked(query).size();
    }

    private Set<List<Integer>> triples(int query, int graph, int... places) {
        needQuery(query);
        need(in(graph, 0, 2) && arePlaces(places), illegal());
        Set<List<Integer>> triples = new TreeSet<>(ORDER);
        for (List<Integer> row : asked(query).keySet()) {
            int subject = termOf(row, places[0]);
            int predicate = termOf(row, places[1]);
            int object = termOf(row, places[2]);
            if (isTriple(subject, predicate, object)) {
                triples.add(List.of(subject, predicate, object));
            }
        }
        return triples;
    }

    int addRows(int query, int graph, int subject, int predicate, int object) {
        Set<List<Integer>> triples = triples(query, graph, subject, predicate, object);
        triples.removeAll(graphs.get(graph));
        need(total() + triples.size() <= 60, new IllegalStateException());
        graphs.get(graph).addAll(triples);
        return triples.size();
    }

    int removeRows(int query, int graph, int subject, int predicate, int object) {
        Set<List<Integer>> triples = triples(query, graph, subject, predicate, object);
        int before = graphs.get(graph).size();
        graphs.get(graph).removeAll(triples);
        return before - graphs.get(graph).size();
    }

    int addShape(int graph, int predicate, int other, int least, int greatest) {
        need(in(graph, 0, 3) && in(predicate, 0, 7) && in(other, 0, 7), illegal());
        need(in(least, 0, 9) && in(greatest, least, 9), illegal());
        need(shapes.size() < 6, new IllegalStateException());
        shapes.add(new int[] {graph, predicate, other, least, greatest});
        return shapes.size() - 1;
    }

    private List<Integer> allFaults() {
        List<Integer> faults = new ArrayList<>();
        for (int number = 0; number < shapes.size(); number++) {
            int[] shape = shapes.get(number);
            Set<List<Integer>> seen = seen(shape[0]);
            for (int name = 0; name < 8; name++) {
                int subject = name;
                long count = seen.stream().filter(t -> t.get(0) == subject && t.get(1) == shape[2]).count();
                boolean isLookedFor = seen.stream().anyMatch(t -> t.get(0) == subject && t.get(1) == shape[1]);
                if (isLookedFor && (count < shape[3] || count > shape[4])) {
                    faults.add(10 * number + name);
                }
            }
        }
        return faults;
    }

    int faults() {
        return allFaults().size();
    }

    int faultAt(int index) {
        List<Integer> faults = allFaults();
        need(in(index, 0, faults.size() - 1), new IndexOutOfBoundsException());
        return faults.get(index);
    }

    long checksum() {
        long sum = 0;
        for (int graph = 0; graph < 3; graph++) {
            for (List<Integer> t : graphs.get(graph)) {
                sum = 31 * sum + graph + 3 * t.get(0) + 5 * t.get(1) + 7 * t.get(2);
            }
        }
        return sum;
    }

    float thereShare() {
        need(total() > 0, new ArithmeticException());
        return (float) size(3) / (float) entailed(3);
    }

    double meanProof() {
        need(total() > 0, new ArithmeticException());
        return proofs(3).values().stream().reduce(BigInteger.ZERO, BigInteger::add).doubleValue() / entailed(3);
    }
}
