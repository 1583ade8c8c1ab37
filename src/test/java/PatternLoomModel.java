import java.util.ArrayList;
import java.util.HashMap;
import java.util.LinkedHashMap;
import java.util.List;
import java.util.Map;
import java.util.Random;

/** Random runs of calls, of fixed seeds, whose answers a second loom, written another way, must give too. */
public final class PatternLoomModel {
    private static final int RUNS = 4000, CALLS = 512;

    public static void main(String[] args) {
        Map<Integer, Integer> seen = new HashMap<>();
        for (int seed = 0; seed < RUNS; seed++) {
            String fault = run(new Random(seed), seen);
            if (fault != null) {
                System.out.println("seed " + seed + ": " + fault);
                System.exit(1);
            }
        }
        // a run that never met one of the failures would prove little
        for (int why : new int[] {0, -3, -11, -12, -13, -14}) {
            if (seen.getOrDefault(why, 0) < 300) {
                System.out.println("why() was " + why + " only " + seen.getOrDefault(why, 0) + " times");
                System.exit(1);
            }
        }
        System.out.println("all answers are the model's");
    }

    private static String run(Random r, Map<Integer, Integer> seen) {
        PatternLoom loom = new PatternLoom();
        Model model = new Model();
        int patternShare = 5 + r.nextInt(40);
        for (int call = 0; call < CALLS; ) {
            int[] args = arguments(r, model.made.size());
            int method = r.nextInt(100) < patternShare ? 1 : r.nextInt(10);
            int got = callLoom(loom, method, args);
            int want = callModel(model, method, args);
            call++;
            if (got != want) {
                return told(call, method, args, got, want);
            }
            if (method == 0 || method == 3) {
                got = loom.why();
                want = model.why;
                call++;
                seen.merge(got, 1, Integer::sum);
                if (got != want) {
                    return told(call, 8, args, got, want);
                }
            }
            if (method == 3 || method == 4) {
                got = loom.count(3);
                want = model.asked;
                call++;
                if (got != want) {
                    return told(call, 9, args, got, want);
                }
            }
        }
        return null;
    }

    private static String told(int call, int method, int[] a, int got, int want) {
        return "call " + call + ", method " + method + " of " + java.util.Arrays.toString(a)
            + " answered " + got + ", the model " + want;
    }

    /** Small numbers for the most part, so that most calls aren't refused, and now and then any at all. */
    private static int[] arguments(Random r, int made) {
        int[] a = new int[5];
        for (int i = 0; i < a.length; i++) {
            int kind = r.nextInt(40);
            if (kind == 0) {
                a[i] = r.nextInt();
            } else if (kind == 1) {
                a[i] = new int[] {Integer.MIN_VALUE, Integer.MAX_VALUE, -1, 0, 60, 143, 144}[r.nextInt(7)];
            } else if (kind < 20 && made > 0) {
                a[i] = r.nextInt(made);
            } else {
                a[i] = r.nextInt(16) - 2;
            }
        }
        return a;
    }

    private static int callLoom(PatternLoom l, int method, int[] a) {
        return switch (method) {
            case 0 -> l.dye(a[0] & 3 | a[0] >> 31, a[1] & 7 | a[1] >> 31, a[2]);
            case 1 -> l.pattern(sort(a[3]), a[0], a[1], a[2]);
            case 2 -> l.name(a[0] % 7, a[1]);
            case 3 -> l.ask(a[0], a[1], a[2]);
            case 4 -> l.weave(a[0], a[1], a[2], a[3], a[4]);
            case 5 -> l.cloth(a[0]);
            case 6 -> l.changes();
            case 7 -> l.most();
            case 8 -> l.why();
            default -> l.count(a[0] % 7);
        };
    }

    private static int callModel(Model m, int method, int[] a) {
        return switch (method) {
            case 0 -> m.dye(a[0] & 3 | a[0] >> 31, a[1] & 7 | a[1] >> 31, a[2]);
            case 1 -> m.pattern(sort(a[3]), a[0], a[1], a[2]);
            case 2 -> m.name(a[0] % 7, a[1]);
            case 3 -> m.ask(a[0], a[1], a[2]);
            case 4 -> m.weave(a[0], a[1], a[2], a[3], a[4]);
            case 5 -> a[0] >= 0 && a[0] < m.cloth.size() ? m.cloth.get(a[0]) : 0;
            case 6 -> m.changes();
            case 7 -> m.most();
            case 8 -> m.why;
            default -> m.count(a[0] % 7);
        };
    }

    private static int sort(int any) {
        return any > 13 || any < 0 ? any % 16 : any;
    }

    private static final class Failure extends RuntimeException {
        private static final long serialVersionUID = 1L;
        final int by;

        Failure(int by) {
            super(null, null, false, false);
            this.by = by;
        }
    }

    private interface Teller {
        int at(int x, int y);
    }

    private static final class Model {
        final List<List<Integer>> dyes = new ArrayList<>();
        final List<Teller> made = new ArrayList<>();
        final Teller[] names = new Teller[6];
        List<Integer> cloth = new ArrayList<>();
        int width, why, asked, saved, wornTold;

        Model() {
            for (int d = 0; d < 4; d++) {
                dyes.add(new ArrayList<>(List.of(0, 1, 2, 3, 4, 5, 6, 7)));
            }
            names[0] = (x, y) -> (x + y) % 2;
            names[1] = (x, y) -> pick(dyes.get(0), x) + y;
        }

        static int pick(List<Integer> row, int i) {
            if (i < 0 || i > 7) {
                throw new Failure(2);
            }
            return row.get(i);
        }

        static int checked(int divisor) {
            if (divisor == 0) {
                throw new Failure(1);
            }
            return divisor;
        }

        int tell(Teller t, int x, int y) {
            if (asked == 100) {
                throw new Failure(4);
            }
            asked++;
            if (t == null) {
                throw new Failure(3);
            }
            return t.at(x, y);
        }

        boolean known(int... ps) {
            for (int p : ps) {
                if (p < 0 || p >= made.size()) {
                    return false;
                }
            }
            return true;
        }

        int dye(int d, int i, int v) {
            boolean there = d >= 0 && d < 4 && i >= 0 && i < 8;
            why = there ? 0 : -3;
            return there ? dyes.get(d).set(i, v) : 0;
        }

        int pattern(int sort, int a, int b, int c) {
            if (sort < 0 || sort > 13) {
                return -2;
            }
            boolean known = switch (sort) {
                case 0, 1, 2 -> true;
                case 5, 11 -> known(a, b);
                case 6 -> known(a, b, c);
                case 7, 8 -> known(a) && b >= 0 && b < 4;
                case 9, 13 -> a >= 0 && a < 6;
                default -> known(a);
            };
            if (!known) {
                return -3;
            }
            if ((sort == 4 || sort == 12) && (b < 0 || b > 3) || sort == 10 && (b < 1 || b > 50)) {
                return -2;
            }
            if (made.size() == 60) {
                return -4;
            }
            made.add(sort < 7 ? simple(sort, a, b, c) : other(sort, a, b, c));
            return made.size() - 1;
        }

        Teller simple(int sort, int a, int b, int c) {
            return switch (sort) {
                case 0 -> (x, y) -> a;
                case 1 -> (x, y) -> (x / checked(c) & 1) == 0 ? a : b;
                case 2 -> (x, y) -> (x + a * y) % checked(b) + c;
                case 3 -> (x, y) -> tell(made.get(a), x - b, y - c);
                case 4 -> (x, y) -> tell(made.get(a), new int[] {y, -x, x, x * y}[b], new int[] {x, y, -y, x + y}[b]);
                case 5 -> (x, y) -> {
                    int upper = tell(made.get(a), x, y);
                    return upper == 0 ? tell(made.get(b), x, y) : upper;
                };
                default -> (x, y) -> tell(made.get(a), x, y) > 0 ? tell(made.get(b), x, y) : tell(made.get(c), x, y);
            };
        }

        Teller other(int sort, int a, int b, int c) {
            int[] times = {0};
            List<Integer> then = sort == 8 ? new ArrayList<>(dyes.get(b)) : null;
            Teller had = sort == 13 ? names[a] : null;
            return switch (sort) {
                case 7 -> (x, y) -> pick(dyes.get(b), tell(made.get(a), x, y));
                case 8 -> (x, y) -> pick(then, tell(made.get(a), x, y));
                case 9 -> (x, y) -> tell(names[a], x, y) + b;
                case 10 -> (x, y) -> {
                    if (++times[0] % b != 0) {
                        return tell(made.get(a), x, y);
                    }
                    wornTold++;
                    return c;
                };
                case 11 -> (x, y) -> tell(made.get(a), x, y) + c * tell(made.get(b), x, y);
                case 12 -> (x, y) -> {
                    try {
                        return tell(made.get(a), x, y);
                    } catch (Failure f) {
                        if (f.by == 4 || b != 0 && b != f.by || saved == 20) {
                            throw f;
                        }
                        saved++;
                        return c;
                    }
                };
                default -> (x, y) -> tell(had, x, y);
            };
        }

        int name(int n, int p) {
            if (n < 0 || n > 5 || p != -1 && !known(p)) {
                return -3;
            }
            int had = names[n] == null ? 0 : 1;
            names[n] = p == -1 ? null : made.get(p);
            return had;
        }

        int ask(int p, int x, int y) {
            if (!known(p)) {
                why = -3;
                return 0;
            }
            why = 0;
            asked = 0;
            saved = 0;
            try {
                return tell(made.get(p), x, y);
            } catch (Failure f) {
                why = -10 - f.by;
                return 0;
            }
        }

        int weave(int p, int x, int y, int w, int h) {
            if (!known(p)) {
                return -3;
            }
            if (w < 1 || w > 12 || h < 1 || h > 12) {
                return -2;
            }
            saved = 0;
            width = w;
            cloth = new ArrayList<>();
            try {
                for (int i = 0; i < w * h; i++) {
                    asked = 0;
                    cloth.add(tell(made.get(p), x + i % w, y + i / w));
                }
            } catch (Failure f) {
                return -10 - f.by;
            }
            return w * h;
        }

        int changes() {
            int changes = 0;
            for (int start = 0; start < cloth.size(); start += width) {
                List<Integer> row = cloth.subList(start, Math.min(start + width, cloth.size()));
                for (int i = 1; i < row.size(); i++) {
                    changes += row.get(i).equals(row.get(i - 1)) ? 0 : 1;
                }
            }
            return changes;
        }

        int most() {
            Map<Integer, Integer> times = new LinkedHashMap<>();
            for (int colour : cloth) {
                times.merge(colour, 1, Integer::sum);
            }
            int often = 0;
            for (int n : times.values()) {
                often = Math.max(often, n);
            }
            for (Map.Entry<Integer, Integer> colour : times.entrySet()) {
                if (colour.getValue() == often) {
                    return colour.getKey();
                }
            }
            return 0;
        }

        int count(int what) {
            return switch (what) {
                case 0 -> made.size();
                case 1 -> cloth.size();
                case 2 -> width;
                case 3 -> asked;
                case 4 -> wornTold;
                default -> -2;
            };
        }
    }
}
