import java.util.ArrayList;
import java.util.HashMap;
import java.util.List;
import java.util.Map;
import java.util.TreeMap;

/**
 * The document told a second time, in the plainest other way: beads lie singly in lists, grids are lists of texts,
 * images are made one by one, and the best chain is picked from all chains. Answers are texts.
 */
final class Model {
    private static final String INDEX = "throws.IndexOutOfBoundsException";
    private static final String ARGUMENT = "throws.IllegalArgumentException";
    private static final String STATE = "throws.IllegalStateException";

    private static final class Wish {
        private final int gives;
        private final int wants;

        private Wish(int gives, int wants) {
            this.gives = gives;
            this.wants = wants;
        }
    }

    private static final class Belt {
        private final int pattern;
        private int owner;

        private Belt(int pattern, int owner) {
            this.pattern = pattern;
            this.owner = owner;
        }
    }

    private final Map<String, Integer> counts = new HashMap<>();
    private List<String> draft = new ArrayList<>(List.of("0"));
    private final List<List<String>> patterns = new ArrayList<>();
    private final List<Integer> authors = new ArrayList<>();
    private final TreeMap<Integer, Belt> belts = new TreeMap<>();
    private final TreeMap<Integer, Wish> wishes = new TreeMap<>();
    private final List<List<String>> signs = new ArrayList<>();
    private final List<Integer> worths = new ArrayList<>();

    private int get(String what, int... numbers) {
        return counts.getOrDefault(key(what, numbers), 0);
    }

    private int add(int more, String what, int... numbers) {
        return counts.merge(key(what, numbers), more, Integer::sum);
    }

    private static String key(String what, int... numbers) {
        StringBuilder text = new StringBuilder(what);
        for (int number : numbers) {
            text.append(' ').append(number);
        }
        return text.toString();
    }

    private static boolean in(int number, int least, int most) {
        return least <= number && number <= most;
    }

    private static int countOf(List<String> grid, int colour) {
        return (int) String.join("", grid).chars().filter(c -> c - '0' == colour).count();
    }

    private static List<String> mirrored(List<String> grid) {
        return grid.stream().map(row -> new StringBuilder(row).reverse().toString()).toList();
    }

    private static List<String> turned(List<String> grid) {
        List<String> image = new ArrayList<>();
        for (int column = 0; column < grid.get(0).length(); column++) {
            StringBuilder row = new StringBuilder();
            for (int from = grid.size() - 1; from >= 0; from--) {
                row.append(grid.get(from).charAt(column));
            }
            image.add(row.toString());
        }
        return image;
    }

    private int originOf(int pattern) {
        List<List<String>> images = new ArrayList<>();
        for (List<String> start : List.of(patterns.get(pattern), mirrored(patterns.get(pattern)))) {
            List<String> image = start;
            for (int quarter = 0; quarter < 4; quarter++) {
                images.add(image);
                image = turned(image);
            }
        }
        int lowest = 0;
        while (lowest < pattern && !images.contains(patterns.get(lowest))) {
            lowest++;
        }
        return lowest;
    }

    private int placesOf(List<String> sign, List<String> grid) {
        int places = 0;
        for (int row = 0; row < grid.size(); row++) {
            for (int column = 0; column < grid.get(row).length(); column++) {
                boolean all = true;
                for (int down = 0; down < sign.size(); down++) {
                    all &= row + down < grid.size() && grid.get(row + down).startsWith(sign.get(down), column);
                }
                places += all ? 1 : 0;
            }
        }
        return places;
    }

    private int storyOf(int pattern) {
        int sum = 0;
        for (int sign = 0; sign < signs.size(); sign++) {
            sum += worths.get(sign) * placesOf(signs.get(sign), patterns.get(pattern));
        }
        return sum;
    }

    /** All rows of different people with beads for their wishes; among them those that are chains. */
    private void collectChains(List<Integer> row, List<List<Integer>> chains) {
        boolean chain = row.size() >= 2;
        for (int place = 0; place < row.size(); place++) {
            int next = row.get((place + 1) % row.size());
            chain &= row.get(place) >= row.get(0) && wishes.get(row.get(place)).wants == wishes.get(next).gives;
        }
        if (chain) {
            chains.add(List.copyOf(row));
        }
        for (int person : wishes.keySet()) {
            if (!row.contains(person) && get("hand", person, wishes.get(person).gives) > 0) {
                row.add(person);
                collectChains(row, chains);
                row.remove(row.size() - 1);
            }
        }
    }

    private List<Integer> bestChain() {
        List<List<Integer>> chains = new ArrayList<>();
        collectChains(new ArrayList<>(), chains);
        chains.sort((one, other) -> {
            if (one.size() != other.size()) {
                return other.size() - one.size();
            }
            return one.toString().compareTo(other.toString());
        });
        return chains.isEmpty() ? List.of() : chains.get(0);
    }

    /** What the call with that name and those arguments answers. */
    String answer(String name, int a, int b, int c) {
        switch (name) {
            case "bring": case "lay": case "hand": case "beads": case "brought":
                return answerOfBeads(name, a, b, c);
            case "draft": case "bead": case "pattern": case "patterns": case "symmetries": case "origin": case "needs":
                return answerOfDrafts(name, a, b, c);
            case "weave": case "apart": case "give": case "owner": case "credits":
                return answerOfBelts(name, a, b);
            case "wish": case "unwish": case "chain": case "chainByOrders": case "chainAt": case "fair":
                return answerOfBarter(name, a, b, c);
            default:
                return answerOfStories(name, a, b);
        }
    }

    private String answerOfBeads(String name, int a, int b, int c) {
        switch (name) {
            case "bring":
                if (!in(a, 0, 6) || !in(b, 0, 7)) {
                    return INDEX;
                }
                if (!in(c, 1, 1000)) {
                    return ARGUMENT;
                }
                if (get("hand", a, b) + c > 100000) {
                    return STATE;
                }
                add(c, "brought", b);
                return "" + add(c, "hand", a, b);
            case "lay":
                if (!in(a, 0, 6) || !in(b, 0, 7)) {
                    return INDEX;
                }
                if (!in(c, -1000, 1000)) {
                    return ARGUMENT;
                }
                if (!in(get("hand", a, b) - c, 0, 100000) || get("stall", b) + c < 0) {
                    return STATE;
                }
                add(-c, "hand", a, b);
                return "" + add(c, "stall", b);
            case "hand":
                return in(a, 0, 6) && in(b, 0, 7) ? "" + get("hand", a, b) : INDEX;
            case "beads":
                if (!in(a, 0, 7)) {
                    return INDEX;
                }
                int sum = get("stall", a);
                for (int person = 0; person < 7; person++) {
                    sum += get("hand", person, a);
                }
                for (Belt belt : belts.values()) {
                    sum += countOf(patterns.get(belt.pattern), a);
                }
                return "" + sum;
            default:
                return in(a, 0, 7) ? "" + get("brought", a) : INDEX;
        }
    }

    private String answerOfDrafts(String name, int a, int b, int c) {
        switch (name) {
            case "draft":
                if (!in(a, 1, 8) || !in(b, 1, 6)) {
                    return ARGUMENT;
                }
                draft = new ArrayList<>();
                for (int row = 0; row < b; row++) {
                    draft.add("0".repeat(a));
                }
                return "" + a * b;
            case "bead":
                if (!in(b, 0, draft.size() - 1) || !in(a, 0, draft.get(0).length() - 1) || !in(c, 0, 7)) {
                    return INDEX;
                }
                String row = draft.get(b);
                draft.set(b, row.substring(0, a) + c + row.substring(a + 1));
                return row.substring(a, a + 1);
            case "pattern":
                if (!in(a, 0, 6)) {
                    return INDEX;
                }
                if (patterns.size() == 12) {
                    return STATE;
                }
                patterns.add(List.copyOf(draft));
                authors.add(a);
                return "" + (patterns.size() - 1);
            case "patterns":
                return "" + patterns.size();
            default:
                if (!in(a, 0, patterns.size() - 1) || name.equals("needs") && !in(b, 0, 7)) {
                    return INDEX;
                }
                if (name.equals("origin")) {
                    return "" + originOf(a);
                }
                List<String> grid = patterns.get(a);
                if (name.equals("needs")) {
                    return "" + countOf(grid, b);
                }
                List<String> upsideDown = new ArrayList<>(grid);
                java.util.Collections.reverse(upsideDown);
                return "" + ((grid.equals(mirrored(grid)) ? 1 : 0) + (grid.equals(upsideDown) ? 2 : 0)
                        + (grid.equals(mirrored(upsideDown)) ? 4 : 0) + (grid.equals(turned(grid)) ? 8 : 0));
        }
    }

    private String answerOfBelts(String name, int a, int b) {
        if (name.equals("credits")) {
            return in(a, 0, 6) ? "" + get("credits", a) : INDEX;
        }
        if (name.equals("weave")) {
            if (!in(a, 0, 6) || !in(b, 0, patterns.size() - 1)) {
                return INDEX;
            }
            int number = 0;
            while (belts.containsKey(number)) {
                number++;
            }
            boolean enough = number < 20;
            for (int colour = 0; colour < 8; colour++) {
                enough &= countOf(patterns.get(b), colour) <= get("hand", a, colour);
            }
            if (!enough) {
                return STATE;
            }
            for (int colour = 0; colour < 8; colour++) {
                add(-countOf(patterns.get(b), colour), "hand", a, colour);
            }
            belts.put(number, new Belt(b, a));
            add(1, "credits", authors.get(originOf(b)));
            return "" + number;
        }
        Belt belt = belts.get(a);
        if (belt == null) {
            return INDEX;
        }
        if (name.equals("owner")) {
            return "" + belt.owner;
        }
        if (name.equals("give")) {
            if (!in(b, 0, 6)) {
                return INDEX;
            }
            int before = belt.owner;
            belt.owner = b;
            return "" + before;
        }
        List<String> grid = patterns.get(belt.pattern);
        for (int colour = 0; colour < 8; colour++) {
            if (get("hand", belt.owner, colour) + countOf(grid, colour) > 100000) {
                return STATE;
            }
        }
        for (int colour = 0; colour < 8; colour++) {
            add(countOf(grid, colour), "hand", belt.owner, colour);
        }
        belts.remove(a);
        return "" + String.join("", grid).length();
    }

    private String answerOfBarter(String name, int a, int b, int c) {
        switch (name) {
            case "wish":
                if (!in(a, 0, 6) || !in(b, 0, 7) || !in(c, 0, 7)) {
                    return INDEX;
                }
                return b == c ? ARGUMENT : "" + (wishes.put(a, new Wish(b, c)) != null);
            case "unwish":
                return in(a, 0, 6) ? "" + (wishes.remove(a) != null) : INDEX;
            case "chainAt":
                List<Integer> best = bestChain();
                return in(a, 0, best.size() - 1) ? "" + best.get(a) : INDEX;
            case "fair":
                List<Integer> people = bestChain();
                for (int place = 0; place < people.size(); place++) {
                    int person = people.get(place);
                    int colour = wishes.get(person).wants;
                    add(1, "hand", person, colour);
                    add(-1, "hand", people.get((place + 1) % people.size()), colour);
                }
                return "" + people.size();
            default:
                return "" + bestChain().size();
        }
    }

    private String answerOfStories(String name, int a, int b) {
        switch (name) {
            case "sign":
                if (!in(a, 1, 100)) {
                    return ARGUMENT;
                }
                if (draft.size() > 3 || draft.get(0).length() > 3 || signs.size() == 8) {
                    return STATE;
                }
                signs.add(List.copyOf(draft));
                worths.add(a);
                return "" + (signs.size() - 1);
            case "stands":
                return in(a, 0, signs.size() - 1) && in(b, 0, patterns.size() - 1)
                        ? "" + placesOf(signs.get(a), patterns.get(b)) : INDEX;
            case "story":
                return in(a, 0, patterns.size() - 1) ? "" + storyOf(a) : INDEX;
            case "hear":
                return belts.containsKey(a) && in(b, 0, 6)
                        ? "" + add(storyOf(belts.get(a).pattern), "heard", b) : INDEX;
            default:
                List<Integer> people = new ArrayList<>(List.of(0, 1, 2, 3, 4, 5, 6));
                people.sort((one, other) -> get("heard", other) - get("heard", one));
                return in(a, 0, 6) ? "" + people.get(a) : INDEX;
        }
    }
}
