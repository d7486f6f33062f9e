import java.util.Random;

/** A law made by chance: its text, and its worth told by the same tree from which the text was written. */
final class RandomLaw implements PlainShop.Law {
    private static final String LETTERS = "wixnbt";

    private interface Node {
        int of(int[] letters);
    }

    private final Random random;
    private final StringBuilder out = new StringBuilder();
    private final Node[] conditions;
    private final Node[] sums;
    final String text;

    RandomLaw(Random random) {
        this.random = random;
        int clauses = 1 + random.nextInt(3);
        conditions = new Node[clauses];
        sums = new Node[clauses];
        for (int i = 0; i < clauses; i++) {
            put(i == 0 ? "y" : ";y");
            put(":");
            if (random.nextInt(3) > 0) {
                conditions[i] = condition(2);
                put("?");
            }
            sums[i] = sum(2);
        }
        // What is too long for the tape is made shorter by leaving all away but one sum.
        if (out.length() > 240) {
            out.setLength(0);
            put("y:");
            conditions[0] = null;
            sums[0] = term(0);
        }
        text = out.toString();
    }

    private void put(String signs) {
        out.append(signs);
        if (random.nextInt(8) == 0) {
            out.append(' ');
        }
    }

    private static int held(long number) {
        return (int) Math.max(-1000000, Math.min(1000000, number));
    }

    private Node condition(int depth) {
        Node left = truth(depth);
        if (random.nextInt(3) > 0) {
            return left;
        }
        put("|");
        Node right = condition(depth);
        return l -> left.of(l) + right.of(l) > 0 ? 1 : 0;
    }

    private Node truth(int depth) {
        Node left = unit(depth);
        if (random.nextInt(3) > 0) {
            return left;
        }
        put("&");
        Node right = truth(depth);
        return l -> left.of(l) * right.of(l);
    }

    private Node unit(int depth) {
        int kind = depth == 0 ? 9 : random.nextInt(5);
        if (kind == 0) {
            put("!");
            Node inner = unit(depth - 1);
            return l -> inner.of(l) == 0 ? 1 : 0;
        }
        if (kind == 1) {
            put("(");
            Node inner = condition(depth - 1);
            put(")");
            return inner;
        }
        Node left = sum(depth);
        int compare = random.nextInt(3);
        put("=<>".substring(compare, compare + 1));
        Node right = sum(depth);
        return l -> {
            int difference = Integer.compare(left.of(l), right.of(l));
            return difference == (compare == 0 ? 0 : compare == 1 ? -1 : 1) ? 1 : 0;
        };
    }

    private Node sum(int depth) {
        Node left = term(depth);
        for (int more = random.nextInt(5) - 2; more > 0; more--) {
            boolean plus = random.nextBoolean();
            put(plus ? "+" : "-");
            left = joined(left, term(depth), plus);
        }
        return left;
    }

    private static Node joined(Node left, Node right, boolean plus) {
        return l -> held(plus ? (long) left.of(l) + right.of(l) : (long) left.of(l) - right.of(l));
    }

    private Node term(int depth) {
        Node left = atom(depth);
        for (int more = random.nextInt(5) - 2; more > 0; more--) {
            boolean times = random.nextBoolean();
            put(times ? "*" : "/");
            left = timed(left, atom(depth), times);
        }
        return left;
    }

    private static Node timed(Node left, Node right, boolean times) {
        return l -> {
            long a = left.of(l);
            long b = right.of(l);
            return times ? held(a * b) : b == 0 ? 0 : (int) (a / b);
        };
    }

    private Node atom(int depth) {
        int kind = random.nextInt(depth == 0 ? 4 : 5);
        if (kind == 4) {
            put("[");
            Node inner = sum(depth - 1);
            put("]");
            return inner;
        }
        if (kind == 3) {
            int number = random.nextInt(random.nextInt(4) == 0 ? 10000 : 12);
            put(String.valueOf(number));
            return l -> number;
        }
        int letter = random.nextInt(6);
        put(LETTERS.substring(letter, letter + 1));
        return l -> l[letter];
    }

    @Override
    public int worth(int w, int i, int x, int n, int b, int t) {
        int[] letters = {w, i, x, n, b, t};
        for (int clause = 0; clause < sums.length; clause++) {
            if (conditions[clause] == null || conditions[clause].of(letters) == 1) {
                return sums[clause].of(letters);
            }
        }
        return 0;
    }
}
