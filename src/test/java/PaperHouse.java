import java.util.ArrayList;
import java.util.List;
import java.util.Map;
import java.util.NoSuchElementException;
import java.util.TreeMap;

/**
 * The document read once more, in another shape than the program's: it holds the acts alone and works out every
 * answer from them, with a failing part's steps really done and undone.
 */
final class PaperHouse {
    private static final class Paper {
        final Map<Integer, List<Integer>> usesByKind = new TreeMap<>();
        final Map<String, Boolean> dropped = new TreeMap<>();
        final Map<Integer, long[]> parts = new TreeMap<>();
        final List<int[]> failures = new ArrayList<>();
        final List<Integer> bytes = new ArrayList<>();
        int answered;

        Paper() {
            for (int kind = 0; kind <= 4; kind++) {
                usesByKind.put(kind, new ArrayList<>());
            }
            for (int part = 0; part <= 5; part++) {
                parts.put(part, new long[] {part == 5 ? 0 : part, 0, 0, 0, 0});
            }
        }

        boolean has(int kind, int number) {
            return number > 0 && number <= usesByKind.get(kind).size() && !dropped.containsKey(kind + "/" + number);
        }

        int there(int kind) {
            int there = 0;
            for (int number = 1; number <= 9; number++) {
                there += has(kind, number) ? 1 : 0;
            }
            return there;
        }

        void addUse(int kind, int number, int more) {
            List<Integer> uses = usesByKind.get(kind);
            uses.set(number - 1, uses.get(number - 1) + more);
        }

        /** The answer, or null if the part failed. */
        Long call(int part, int number, int a) {
            long[] p = parts.get(part);
            int kind = (int) p[0];
            long answer = p[1] + p[2] * a + number + p[3];
            int way = (int) p[4];
            if (way == 1) {
                return failed(way, part, number);
            }
            addUse(kind, number, 1);
            if (way == 2) {
                addUse(kind, number, -1);
                return failed(way, part, number);
            }
            p[3] += a;
            if (way == 3) {
                p[3] -= a;
                addUse(kind, number, -1);
                return failed(way, part, number);
            }
            answered++;
            return answer;
        }

        private Long failed(int way, int part, int number) {
            failures.add(new int[] {way, part, number});
            return null;
        }

        Long act(String name, int x, int y, int z) {
            switch (name) {
                case "make":
                    usesByKind.get(x).add(0);
                    return (long) usesByKind.get(x).size();
                case "drop":
                    dropped.put(x + "/" + y, true);
                    return (long) usesByKind.get(x).get(y - 1);
                case "serves":
                    parts.get(x)[0] = y;
                    return 0L;
                case "answers":
                    parts.get(x)[1] = y;
                    parts.get(x)[2] = z;
                    return 0L;
                case "fails":
                    long before = parts.get(x)[4];
                    parts.get(x)[4] = y;
                    return before;
                case "call":
                    return call(x, y, z);
                default:
                    bytes.add(x);
                    return (long) bytes.size();
            }
        }
    }

    private record Act(String name, int x, int y, int z) {
    }

    private final List<Act> acts = new ArrayList<>();

    private Paper paper() {
        Paper paper = new Paper();
        for (Act act : acts) {
            paper.act(act.name, act.x, act.y, act.z);
        }
        return paper;
    }

    long answer(String name, int x, int y, int z) {
        refuseByRange(name, x, y, z);
        Paper paper = paper();
        refuseByThing(paper, name, x, y);
        refuseByRoom(paper, name, x);
        switch (name) {
            case "again":
                return orFailed(paper.call(x, y, z));
            case "sums":
                return sums(paper);
            case "back":
                if (acts.isEmpty()) {
                    throw new IllegalStateException();
                }
                acts.remove(acts.size() - 1);
                return acts.size();
            case "told":
                return told(paper, x);
            case "worth":
                return paper.parts.get(x)[3];
            case "uses":
                return paper.usesByKind.get(x).get(y - 1);
            case "numbers":
                return y == 0 ? paper.usesByKind.get(x).size() : paper.there(x);
            case "count":
                return count(paper, x);
            default:
                acts.add(new Act(name, x, y, z));
                return orFailed(paper.act(name, x, y, z));
        }
    }

    private static long orFailed(Long answer) {
        if (answer == null) {
            throw new IllegalStateException();
        }
        return answer;
    }

    private static void within(int value, int least, int greatest) {
        if (value < least || value > greatest) {
            throw new IllegalArgumentException();
        }
    }

    private static void refuseByRange(String name, int x, int y, int z) {
        switch (name) {
            case "make", "drop", "uses", "numbers" -> within(x, 0, 4);
            case "serves", "answers", "fails", "call", "again", "worth" -> within(x, 0, 5);
            case "collect" -> within(x, 0, 255);
            case "told" -> within(x, 0, 3);
            default -> { }
        }
        switch (name) {
            case "serves" -> within(y, 0, 4);
            case "fails" -> within(y, 0, 3);
            case "numbers" -> within(y, 0, 1);
            case "answers" -> within(y, -1000000, 1000000);
            default -> { }
        }
        switch (name) {
            case "answers", "call", "again" -> within(z, -1000000, 1000000);
            default -> { }
        }
    }

    private static void refuseByThing(Paper paper, String name, int x, int y) {
        boolean known = switch (name) {
            case "drop", "uses" -> paper.has(x, y);
            case "call", "again" -> paper.has((int) paper.parts.get(x)[0], y);
            default -> true;
        };
        if (!known) {
            throw new NoSuchElementException();
        }
    }

    private void refuseByRoom(Paper paper, String name, int x) {
        boolean acting = switch (name) {
            case "make", "drop", "serves", "answers", "fails", "call", "collect" -> true;
            default -> false;
        };
        if (acting && acts.size() == 60 || name.equals("make") && paper.usesByKind.get(x).size() == 9) {
            throw new UnsupportedOperationException();
        }
    }

    private static long sums(Paper paper) {
        long one = 1;
        long two = 0;
        for (int b : paper.bytes) {
            one = (one + b) % 65521;
            two = (two + one) % 65521;
        }
        return two * 65536 + one;
    }

    private static long told(Paper paper, int what) {
        if (what == 0) {
            return paper.failures.size();
        }
        if (paper.failures.isEmpty()) {
            return what == 1 ? 0 : -1;
        }
        return paper.failures.get(paper.failures.size() - 1)[what - 1];
    }

    private long count(Paper paper, int what) {
        switch (what) {
            case 0:
                return acts.size();
            case 1:
                int there = 0;
                for (int kind = 0; kind <= 4; kind++) {
                    there += paper.there(kind);
                }
                return there;
            case 2:
                return paper.bytes.size();
            case 3:
                return paper.answered;
            default:
                return -1;
        }
    }
}
