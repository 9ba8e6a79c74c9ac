import java.math.BigInteger;
import java.util.ArrayList;
import java.util.Collections;
import java.util.List;

/**
 * Holds SilkHouse against a second telling of the document, written in another way: lists instead of rows, big
 * fractions, every way tried. Runs of calls are made by a counter of our own, so that each run is the same each time.
 */
public final class ModelRuns {
    static final int NONE = -1, UNKNOWN = -100001, OUTSIDE = -100002, NOT = -100003, FULL = -100004;

    record Fraction(BigInteger up, BigInteger low) implements Comparable<Fraction> {
        static Fraction of(long up, long low) {
            return of(BigInteger.valueOf(up), BigInteger.valueOf(low));
        }

        static Fraction of(BigInteger up, BigInteger low) {
            BigInteger g = up.gcd(low);
            return new Fraction(up.divide(g), low.divide(g));
        }

        Fraction plus(Fraction f) {
            return of(up.multiply(f.low).add(f.up.multiply(low)), low.multiply(f.low));
        }

        Fraction minus(Fraction f) {
            return plus(new Fraction(f.up.negate(), f.low));
        }

        Fraction times(Fraction f) {
            return of(up.multiply(f.up), low.multiply(f.low));
        }

        Fraction abs() {
            return new Fraction(up.abs(), low);
        }

        public int compareTo(Fraction f) {
            return up.multiply(f.low).compareTo(f.up.multiply(low));
        }

        boolean above(Fraction f) {
            return compareTo(f) > 0;
        }

        long whole() {
            return up.divide(low).longValueExact();
        }
    }

    record Skein(int number, int bale, int look, int scale, int raw, int dry, int oven, int hand, int day) {
    }

    record Trial(int scale, int day, int error) {
    }

    record Token(char kind, int at, String text) {
    }

    record Clause(String head, String word, int first, int second) {
    }

    record Rule(int number, int day, List<Clause> clauses) {
    }

    static final class Paper {
        boolean certificate;
        int bale;
        int amount;
        int on;
        int day;
        int undone = NONE;
    }

    static final class Bale {
        int gross;
        List<Integer> threads = new ArrayList<>();
        List<Integer> turns = new ArrayList<>();
        int[] lows = {0, 0};
    }

    static final class Model {
        int now;
        List<Bale> bales = new ArrayList<>();
        List<Skein> skeins = new ArrayList<>();
        List<Integer> lostOn = new ArrayList<>();
        List<Trial> trials = new ArrayList<>();
        StringBuilder text = new StringBuilder();
        List<Rule> rules = new ArrayList<>();
        int fault = NONE;
        List<Integer> loads = new ArrayList<>();
        List<int[]> shared = new ArrayList<>();
        List<Paper> papers = new ArrayList<>();

        static boolean out(long n, long low, long high) {
            return n < low || n > high;
        }

        boolean noBale(int b) {
            return out(b, 0, bales.size() - 1);
        }

        int go(int n) {
            if (out(n, 0, 999)) return OUTSIDE;
            if (now + n > 3000) return NOT;
            return now += n;
        }

        int bale(int gross) {
            if (out(gross, 1, 99999)) return OUTSIDE;
            if (bales.size() == 10) return FULL;
            Bale b = new Bale();
            b.gross = gross;
            bales.add(b);
            return bales.size() - 1;
        }

        int skein(int b, int look, int scale, int raw, int dry, int oven, int hand) {
            if (noBale(b)) return UNKNOWN;
            if (out(look, 0, 2) || out(scale, 0, 3) || out(raw, 100, 9999) || out(dry, 50, raw)
                    || out(oven, 0, 3) || out(hand, 0, 7)) return OUTSIDE;
            long like = skeins.stream().filter(s -> s.bale == b && s.look == look).count();
            if (skeins.size() == 60 || like == 12) return FULL;
            skeins.add(new Skein(skeins.size(), b, look, scale, raw, dry, oven, hand, now));
            lostOn.add(NONE);
            return skeins.size() - 1;
        }

        int lose(int s) {
            if (out(s, 0, skeins.size() - 1)) return UNKNOWN;
            if (lostOn.get(s) != NONE) return NOT;
            lostOn.set(s, now);
            return 1;
        }

        int told(int n, int what) {
            if (out(n, 0, skeins.size() - 1)) return UNKNOWN;
            if (out(what, 0, 8)) return OUTSIDE;
            Skein s = skeins.get(n);
            return new int[] {s.bale, s.look, s.scale, s.raw, s.dry, s.oven, s.hand, s.day, lostOn.get(n)}[what];
        }

        int test(int scale, int shown, int weight) {
            if (out(scale, 0, 3) || out(shown, 1, 9999) || out(weight, 1, 9999)) return OUTSIDE;
            if (trials.size() == 30) return FULL;
            trials.add(new Trial(scale, now, shown - weight));
            return trials.size();
        }

        int error(int scale, int day, int what) {
            if (out(scale, 0, 3) || out(day, 0, 3000) || out(what, 0, 1)) return OUTSIDE;
            List<Integer> both = new ArrayList<>();
            for (int t = trials.size() - 1; t >= 0; t--) {
                if (trials.get(t).scale == scale && trials.get(t).day <= day) {
                    both.add(trials.get(t).error);
                    break;
                }
            }
            for (Trial t : trials) {
                if (t.scale == scale && t.day > day) {
                    both.add(t.error);
                    break;
                }
            }
            if (both.isEmpty()) return 0;
            return what == 0 ? Collections.min(both) : Collections.max(both);
        }

        List<Skein> look(int b, int look, int day) {
            List<Skein> found = new ArrayList<>();
            for (Skein s : skeins) {
                int lost = lostOn.get(s.number);
                if (s.bale == b && s.look == look && s.day <= day && !(lost != NONE && lost <= day)) found.add(s);
            }
            return found;
        }

        static Fraction ratioOf(List<Skein> some) {
            long raw = 0;
            long dry = 0;
            for (Skein s : some) {
                raw += s.raw;
                dry += s.dry;
            }
            return Fraction.of(dry, raw);
        }

        static long pick(Fraction f, int what) {
            return (what == 0 ? f.up : f.low).longValueExact();
        }

        int ratio(int b, int look, int what) {
            if (noBale(b)) return UNKNOWN;
            if (out(look, 0, 2) || out(what, 0, 2)) return OUTSIDE;
            List<Skein> some = look(b, look, now);
            if (what == 2) return some.size();
            return some.isEmpty() ? NOT : (int) pick(ratioOf(some), what);
        }

        int count(int what) {
            if (out(what, 0, 10)) return OUTSIDE;
            int lost = 0;
            for (int day : lostOn) lost += day == NONE ? 0 : 1;
            int[] states = new int[3];
            for (int b = 0; b < bales.size(); b++) states[state(b, now)]++;
            int fees = 0;
            for (Paper p : papers) if (p.certificate && p.on == NONE) fees += force(4, p.day);
            return new int[] {now, bales.size(), skeins.size(), lost, trials.size(), rules.size(), papers.size(),
                states[1], states[2], text.length(), fees}[what];
        }

        int feed(int n, long bytes) {
            if (out(n, 1, 8)) return OUTSIDE;
            if (text.length() + n > 200) return FULL;
            for (int k = 0; k < n; k++) text.append((char) (bytes >> 8 * (n - 1 - k) & 255));
            return text.length();
        }

        int rule(int day) {
            if (out(day, 0, 3000)) return OUTSIDE;
            if (rules.size() == 8) return FULL;
            String all = text.toString();
            text.setLength(0);
            List<Clause> clauses = new ArrayList<>();
            int[] found = read(tokens(all), clauses);
            fault = found == null ? NONE : found[0];
            if (found != null) return -10 - found[1];
            rules.add(new Rule(rules.size(), day, clauses));
            return rules.size() - 1;
        }

        static List<Token> tokens(String all) {
            List<Token> found = new ArrayList<>();
            int at = 0;
            while (at < all.length()) {
                char c = all.charAt(at);
                int end = at + 1;
                char kind = c;
                if (c >= 'a' && c <= 'z') {
                    kind = 'w';
                    while (end < all.length() && all.charAt(end) >= 'a' && all.charAt(end) <= 'z') end++;
                } else if (c >= '0' && c <= '9') {
                    kind = 'n';
                    while (end < all.length() && all.charAt(end) >= '0' && all.charAt(end) <= '9') end++;
                } else if (c != ';' && c != ' ') {
                    kind = '?';
                }
                if (c != ' ') found.add(new Token(kind, at, all.substring(at, end)));
                at = end;
            }
            found.add(new Token('e', all.length(), ""));
            return found;
        }

        /** Walks the tokens of a text; at each one all FAULTS that it has are found, and the least is told. */
        int[] read(List<Token> tokens, List<Clause> clauses) {
            List<Token> clause = new ArrayList<>();
            for (Token t : tokens) {
                if (clause.isEmpty() && t.kind == 'e') return null;
                int found = faultAt(clause, t, clauses.size());
                if (found != 0) return new int[] {t.at, found};
                clause.add(t);
                if (t.kind == ';') {
                    clauses.add(clauseOf(clause));
                    clause.clear();
                }
            }
            return null;
        }

        int faultAt(List<Token> before, Token t, int clauses) {
            int k = before.size();
            if (k == 0) {
                if (!List.of("let", "take", "name", "strike").contains(t.text)) return 1;
                return clauses >= 12 ? 5 : 0;
            }
            String[] form = switch (before.get(0).text) {
                case "let" -> new String[] {"let", "which", "number", ";"};
                case "take" -> new String[] {"take", "way", ";"};
                case "name" -> new String[] {"name", "word", "number", "to", "number", ";"};
                default -> new String[] {"strike", "number", ";"};
            };
            switch (form[k]) {
                case "which":
                    return List.of("water", "skeins", "part", "looks", "fee").contains(t.text) ? 0 : 1;
                case "way":
                    return List.of("mean", "least", "middle").contains(t.text) ? 0 : 1;
                case "word":
                    return t.kind != 'w' ? 1 : t.text.length() > 8 ? 4 : 0;
                case "number":
                    return t.kind != 'n' ? 1 : numberFault(before, t);
                default:
                    return t.text.equals(form[k]) ? 0 : 1;
            }
        }

        int numberFault(List<Token> before, Token t) {
            if (t.text.length() > 4) return 2;
            int n = Integer.parseInt(t.text);
            switch (before.get(0).text) {
                case "let":
                    int most = switch (before.get(1).text) {
                        case "water" -> 300;
                        case "skeins" -> 9;
                        case "part" -> 200;
                        case "looks" -> 2;
                        default -> 999;
                    };
                    boolean fromOne = before.get(1).text.equals("skeins") || before.get(1).text.equals("looks");
                    return out(n, fromOne ? 1 : 0, most) ? 2 : 0;
                case "name":
                    return before.size() == 4 && n <= Integer.parseInt(before.get(2).text) ? 2 : 0;
                default:
                    return n >= rules.size() ? 3 : 0;
            }
        }

        static Clause clauseOf(List<Token> t) {
            String head = t.get(0).text;
            return switch (head) {
                case "let" -> new Clause(t.get(1).text, "", Integer.parseInt(t.get(2).text), 0);
                case "take" -> new Clause(head, "", List.of("mean", "least", "middle").indexOf(t.get(1).text), 0);
                case "name" -> new Clause(head, t.get(1).text, Integer.parseInt(t.get(2).text),
                    Integer.parseInt(t.get(4).text));
                default -> new Clause(head, "", Integer.parseInt(t.get(1).text), 0);
            };
        }

        List<Rule> counting(int day) {
            List<Rule> found = new ArrayList<>();
            for (int r = rules.size() - 1; r >= 0; r--) {
                boolean struck = false;
                for (Rule later : found) {
                    for (Clause c : later.clauses) struck |= c.head.equals("strike") && c.first == r;
                }
                if (rules.get(r).day <= day && !struck) found.add(rules.get(r));
            }
            found.sort((x, y) -> x.day != y.day ? x.day - y.day : x.number - y.number);
            return found;
        }

        int force(int name, int day) {
            if (out(name, 0, 5) || out(day, 0, 3000)) return OUTSIDE;
            String head = List.of("water", "skeins", "part", "looks", "fee", "take").get(name);
            int value = new int[] {110, 3, 5, 2, 10, 0}[name];
            for (Rule r : counting(day)) {
                for (Clause c : r.clauses) if (c.head.equals(head)) value = c.first;
            }
            return value;
        }

        int letter(int clause, int i) {
            if (clause < 0 || clause / 100 >= rules.size()) return UNKNOWN;
            List<Clause> clauses = rules.get(clause / 100).clauses;
            if (clause % 100 >= clauses.size()) return UNKNOWN;
            String word = clauses.get(clause % 100).word;
            return out(i, 0, word.length() - 1) ? NONE : word.charAt(i);
        }

        Fraction settled;

        int state(int b, int day) {
            if (noBale(b)) return UNKNOWN;
            if (out(day, 0, now)) return OUTSIDE;
            int need = force(1, day);
            int way = force(5, day);
            List<Fraction> ratios = new ArrayList<>();
            for (int k = 0; k < 3; k++) {
                List<Skein> some = look(b, k, day);
                ratios.add(some.size() < need ? null : ratioOf(some));
            }
            settled = ratios.get(0);
            if (force(3, day) == 1) return settled == null ? 0 : 1;
            if (ratios.get(0) == null || ratios.get(1) == null) return 0;
            boolean apart = apart(ratios.get(0), ratios.get(1), force(2, day));
            if (apart && ratios.get(2) == null) return 2;
            if (!apart) ratios.remove(2);
            settled = way == 0 || !apart && way == 2 ? nearest(ratios) : sorted(ratios).get(way == 1 ? 0 : 1);
            return 1;
        }

        static boolean apart(Fraction p, Fraction q, int part) {
            return p.minus(q).abs().above(Fraction.of(part, 1000));
        }

        static List<Fraction> sorted(List<Fraction> some) {
            List<Fraction> copy = new ArrayList<>(some);
            Collections.sort(copy);
            return copy;
        }

        static Fraction nearest(List<Fraction> some) {
            Fraction best = null;
            Fraction least = null;
            for (int i = 0; i < some.size(); i++) {
                for (int j = i + 1; j < some.size(); j++) {
                    Fraction d = some.get(i).minus(some.get(j)).abs();
                    if (least == null || least.above(d)) {
                        least = d;
                        best = some.get(i).plus(some.get(j)).times(Fraction.of(1, 2));
                    }
                }
            }
            return best;
        }

        Fraction lawfulOf(int b, Fraction ratio, int day) {
            return ratio.times(Fraction.of(bales.get(b).gross, 1)).times(Fraction.of(1000 + force(0, day), 1000));
        }

        long lawful(int b, int day, int what) {
            if (noBale(b)) return UNKNOWN;
            if (out(day, 0, now) || out(what, 0, 1)) return OUTSIDE;
            return state(b, day) == 1 ? pick(lawfulOf(b, settled, day), what) : NOT;
        }

        long span(int b, int what) {
            if (noBale(b)) return UNKNOWN;
            if (out(what, 0, 3)) return OUTSIDE;
            List<Skein> some = look(b, 0, now);
            if (some.isEmpty()) return NOT;
            int low = 0;
            int high = 0;
            long raw = 0;
            long dry = 0;
            for (Skein s : some) {
                low += Math.max(-40, Math.min(40, error(s.scale, s.day, 0)));
                high += Math.max(-40, Math.min(40, error(s.scale, s.day, 1)));
                raw += s.raw;
                dry += s.dry;
            }
            Fraction least = null;
            Fraction most = null;
            for (int e = low; e <= high; e++) {
                Fraction f = lawfulOf(b, Fraction.of(dry - e, raw - e), now);
                if (least == null || least.above(f)) least = f;
                if (most == null || f.above(most)) most = f;
            }
            return pick(what < 2 ? least : most, what % 2);
        }

        boolean partWithout(int b, List<Skein> without, boolean[] noneLeft) {
            List<Skein> first = look(b, 0, now);
            List<Skein> second = look(b, 1, now);
            first.removeAll(without);
            second.removeAll(without);
            noneLeft[0] = first.isEmpty() || second.isEmpty();
            return !noneLeft[0] && apart(ratioOf(first), ratioOf(second), force(2, now));
        }

        int cause(int b, int i) {
            if (noBale(b)) return UNKNOWN;
            boolean[] noneLeft = {false};
            if (!partWithout(b, List.of(), noneLeft)) return NOT;
            List<Skein> both = look(b, 0, now);
            both.addAll(look(b, 1, now));
            List<Integer> causes = new ArrayList<>();
            for (int k = 0; k < 18; k++) {
                List<Skein> own = new ArrayList<>();
                for (Skein s : both) if (k < 10 && s.oven == k || k >= 10 && s.hand == k - 10) own.add(s);
                boolean apart = partWithout(b, own, noneLeft);
                if (own.size() >= 2 && !apart && !noneLeft[0]) causes.add(k);
            }
            for (Skein s : skeins) {
                boolean apart = partWithout(b, List.of(s), noneLeft);
                if (both.contains(s) && !apart && !noneLeft[0]) causes.add(100 + s.number);
            }
            if (i == NONE) return causes.size();
            return out(i, 0, causes.size() - 1) ? NONE : causes.get(i);
        }

        int odd(int b, int look) {
            if (noBale(b)) return UNKNOWN;
            if (out(look, 0, 2)) return OUTSIDE;
            int found = 0;
            for (Skein s : look(b, look, now)) {
                for (Skein t : look(b, look, now)) {
                    boolean apart = apart(ratioOf(List.of(s)), ratioOf(List.of(t)), force(2, now));
                    if (s.number < t.number && apart) found++;
                }
            }
            return found;
        }

        int needed(int b, int risk) {
            if (noBale(b)) return UNKNOWN;
            if (out(risk, 1, 100)) return OUTSIDE;
            List<Skein> all = look(b, 0, now);
            int part = force(2, now);
            for (int n = 2; n <= all.size(); n++) {
                int ways = 0;
                int bad = 0;
                for (int set = 0; set < 1 << all.size(); set++) {
                    if (Integer.bitCount(set) != n) continue;
                    List<Skein> some = new ArrayList<>();
                    for (int k = 0; k < all.size(); k++) if ((set >> k & 1) == 1) some.add(all.get(k));
                    ways++;
                    if (apart(ratioOf(some), ratioOf(all), part)) bad++;
                }
                if (!Fraction.of(bad, ways).above(Fraction.of(risk, 100))) return n;
            }
            return NONE;
        }

        int thread(int b, int weight) {
            if (noBale(b)) return UNKNOWN;
            if (out(weight, 1, 999)) return OUTSIDE;
            List<Integer> own = bales.get(b).threads;
            if (own.size() == 12) return FULL;
            own.add(weight);
            return own.size();
        }

        static Fraction mean(List<Fraction> some) {
            Fraction sum = Fraction.of(0, 1);
            for (Fraction f : some) sum = sum.plus(f);
            return sum.times(Fraction.of(1, some.size()));
        }

        int size(int b, int what) {
            if (noBale(b)) return UNKNOWN;
            if (out(what, 0, 3)) return OUTSIDE;
            if (bales.get(b).threads.isEmpty()) return NONE;
            List<Fraction> sizes = new ArrayList<>();
            for (int w : bales.get(b).threads) sizes.add(Fraction.of(2L * w, 1));
            Fraction mean = mean(sizes);
            if (what < 2) return (int) pick(mean, what);
            List<Fraction> squares = new ArrayList<>();
            for (Fraction f : sizes) squares.add(f.minus(mean).times(f.minus(mean)));
            return (int) pick(mean(squares), what - 2);
        }

        int named(int b, int day) {
            if (noBale(b)) return UNKNOWN;
            if (out(day, 0, 3000)) return OUTSIDE;
            if (bales.get(b).threads.isEmpty()) return NONE;
            Fraction mean = Fraction.of(size(b, 0), size(b, 1));
            int found = NONE;
            for (Rule r : counting(day)) {
                for (int k = 0; k < r.clauses.size(); k++) {
                    Clause c = r.clauses.get(k);
                    boolean fits = !Fraction.of(c.first, 1).above(mean) && Fraction.of(c.second, 1).above(mean);
                    if (c.head.equals("name") && fits) found = 100 * r.number + k;
                }
            }
            return found;
        }

        int turns(int b, int v) {
            if (noBale(b)) return UNKNOWN;
            if (out(v, 0, 999)) return OUTSIDE;
            List<Integer> own = bales.get(b).turns;
            if (own.size() == 8) return FULL;
            own.add(v);
            return own.size();
        }

        int twist(int b) {
            if (noBale(b)) return UNKNOWN;
            List<Integer> own = new ArrayList<>(bales.get(b).turns);
            Collections.sort(own);
            return own.isEmpty() ? NONE : own.get((own.size() + 1) / 2 - 1);
        }

        int burnt(int b, int what, int low, int high) {
            if (noBale(b)) return UNKNOWN;
            if (out(what, 0, 1) || out(low, 0, 999) || out(high, 0, 999) || low > high) return OUTSIDE;
            bales.get(b).lows[what] = low;
            return 1;
        }

        int cheat(int b, int g, int a, int w) {
            if (noBale(b)) return UNKNOWN;
            if (out(g, 0, 999) || out(a, 0, 999) || out(w, 0, 999)) return OUTSIDE;
            List<Skein> some = look(b, 0, now);
            Fraction kept = some.isEmpty() ? Fraction.of(1, 1) : ratioOf(some);
            long loss = Fraction.of(1000, 1).minus(kept.times(Fraction.of(1000, 1))).whole();
            int[] lows = bales.get(b).lows;
            return (lows[0] > g ? 1 : 0) | (lows[1] > a ? 2 : 0) | (lows[0] + lows[1] + loss > w ? 4 : 0);
        }

        int load(int minutes) {
            if (out(minutes, 1, 999)) return OUTSIDE;
            if (loads.size() == 8) return FULL;
            loads.add(minutes);
            return loads.size();
        }

        int order(int m, int i) {
            if (out(m, 1, 3)) return OUTSIDE;
            int n = loads.size();
            int ways = (int) Math.pow(m, n);
            int best = Integer.MAX_VALUE;
            int[] bestOvens = null;
            for (int way = 0; way < ways; way++) {
                int[] ovens = new int[n];
                int[] ends = new int[3];
                for (int k = n - 1, rest = way; k >= 0; k--, rest /= m) {
                    ovens[k] = rest % m;
                    ends[ovens[k]] += loads.get(k);
                }
                int end = Math.max(ends[0], Math.max(ends[1], ends[2]));
                if (end < best) {
                    best = end;
                    bestOvens = ovens;
                }
            }
            if (i == NONE) return best;
            return out(i, 0, n - 1) ? NONE : bestOvens[i];
        }

        int empty() {
            int n = loads.size();
            loads.clear();
            return n;
        }

        int shared(int low, int high, int lowThere, int highThere) {
            for (int n : new int[] {low, high, lowThere, highThere}) if (out(n, 1, 9999)) return OUTSIDE;
            if (low > high || lowThere > highThere) return OUTSIDE;
            if (shared.size() == 8) return FULL;
            shared.add(new int[] {low, high, lowThere, highThere});
            return shared.size();
        }

        int houses(int what) {
            if (out(what, 0, 2)) return OUTSIDE;
            if (shared.isEmpty()) return NOT;
            int n = shared.size();
            for (int left = 0; left < n; left++) {
                for (int set = 0; set < 1 << n; set++) {
                    if (Integer.bitCount(set) != left) continue;
                    int least = Integer.MIN_VALUE;
                    int greatest = Integer.MAX_VALUE;
                    for (int k = 0; k < n; k++) {
                        if ((set >> k & 1) == 1) continue;
                        int[] s = shared.get(k);
                        least = Math.max(least, s[0] - s[3]);
                        greatest = Math.min(greatest, s[1] - s[2]);
                    }
                    if (least <= greatest) return new int[] {least, greatest, set}[what];
                }
            }
            throw new IllegalStateException("one bale alone cannot quarrel");
        }

        boolean noPaper(int p) {
            return out(p, 0, papers.size() - 1);
        }

        int write(boolean certificate, int bale, int amount, int on) {
            Paper p = new Paper();
            p.certificate = certificate;
            p.bale = bale;
            p.amount = amount;
            p.on = on;
            p.day = now;
            papers.add(p);
            return papers.size() - 1;
        }

        int certify(int b) {
            if (noBale(b)) return UNKNOWN;
            for (Paper p : papers) if (p.certificate && p.bale == b && p.undone == NONE) return NOT;
            if (state(b, now) != 1) return NOT;
            if (papers.size() == 40) return FULL;
            return write(true, b, (int) lawfulOf(b, settled, now).whole(), NONE);
        }

        int bill(int paper, int price) {
            if (noPaper(paper)) return UNKNOWN;
            if (out(price, 0, 999)) return OUTSIDE;
            Paper p = papers.get(paper);
            if (!p.certificate || p.undone != NONE) return NOT;
            if (papers.size() == 40) return FULL;
            return write(false, p.bale, p.amount * price, paper);
        }

        int cut(int paper, int a, int b) {
            if (noPaper(paper)) return UNKNOWN;
            Paper p = papers.get(paper);
            if (a < 1 || b < 1 || (long) a + b != p.amount) return OUTSIDE;
            if (!p.certificate || p.undone != NONE) return NOT;
            for (Paper q : papers) if (!q.certificate && q.on == paper && q.undone == NONE) return NOT;
            if (papers.size() > 38) return FULL;
            p.undone = now;
            write(true, p.bale, a, paper);
            return write(true, p.bale, b, paper) - 1;
        }

        int undo(int paper) {
            if (noPaper(paper)) return UNKNOWN;
            if (!papers.get(paper).certificate || papers.get(paper).undone != NONE) return NOT;
            return fall(paper);
        }

        int fall(int paper) {
            int found = papers.get(paper).undone == NONE ? 1 : 0;
            if (found == 1) papers.get(paper).undone = now;
            for (int q = 0; q < papers.size(); q++) if (papers.get(q).on == paper) found += fall(q);
            return found;
        }

        int paper(int n, int what) {
            if (noPaper(n)) return UNKNOWN;
            if (out(what, 0, 6)) return OUTSIDE;
            Paper p = papers.get(n);
            int hang = 0;
            for (Paper q : papers) hang += q.on == n ? 1 : 0;
            return new int[] {p.certificate ? 0 : 1, p.bale, p.amount, p.on, p.day, p.undone, hang}[what];
        }

        long stood(int day, int what) {
            if (out(day, 0, now) || out(what, 0, 1)) return OUTSIDE;
            long sum = 0;
            for (Paper p : papers) {
                boolean gone = p.undone != NONE && p.undone <= day;
                if (p.certificate == (what == 1) && p.day <= day && !gone) sum += p.amount;
            }
            return sum;
        }
    }

    // ---- runs

    private static int wrong = 0;
    private static long seed = 1;

    static int any(int n) {
        seed = seed * 6364136223846793005L + 1442695040888963407L;
        return (int) ((seed >>> 33) % n);
    }

    static int from(int low, int high) {
        return low + any(high - low + 1);
    }

    /** Mostly within, at times at an edge or right beside it. */
    static int near(int low, int high) {
        return switch (any(14)) {
            case 0 -> low;
            case 1 -> high;
            case 2 -> any(3) == 0 ? low - 1 : from(low, high);
            case 3 -> any(3) == 0 ? high + 1 : from(low, high);
            default -> from(low, high);
        };
    }

    static int wild() {
        return new int[] {Integer.MIN_VALUE, Integer.MAX_VALUE, -100003, -2, -1, 0, 1, 9999, 100000}[any(9)];
    }

    static String oneOf(String... some) {
        return some[any(some.length)];
    }

    static String gap() {
        return oneOf("", "", "", " ", "  ");
    }

    static String clause() {
        String number = Integer.toString(near(0, new int[] {2, 9, 12, 300, 999}[any(5)]));
        if (any(30) == 0) number = oneOf("00005", "0005", "10000", "9999", "0", "99999999999");
        return switch (any(9)) {
            case 0, 1, 2, 3 -> "let" + gap() + " " + oneOf("water", "skeins", "part", "looks", "fee")
                + gap() + number + gap() + ";" + gap();
            case 4 -> "take " + oneOf("mean", "least", "middle") + gap() + ";";
            case 5, 6 -> "name " + oneOf("a", "organ", "let", "to", "eightlet", "ninelette", "tram") + gap()
                + from(0, 20) + gap() + "to" + gap() + from(10, 60) + gap() + ";";
            case 7 -> "strike" + gap() + from(0, 3) + gap() + ";";
            default -> oneOf("let skeins 1;", "let looks 1;", "let part 0;", "let part 30;", "take least;",
                "take middle;", "let skeins 2;", "let water 0;");
        };
    }

    static String text() {
        StringBuilder all = new StringBuilder(gap());
        int clauses = any(12) == 0 ? from(10, 14) : from(0, 4);
        boolean brief = clauses > 6;
        for (int k = 0; k < clauses; k++) all.append(brief ? oneOf("take mean;", "let fee 7;", "strike 0;") : clause());
        if (any(3) == 0 && all.length() > 0) {
            int at = any(all.length());
            char sign = "abz019; ;A\u00e9@_{`/:".charAt(any(17));
            switch (any(4)) {
                case 0 -> all.deleteCharAt(at);
                case 1 -> all.insert(at, sign);
                case 2 -> all.setCharAt(at, sign);
                default -> all.setLength(at);
            }
        }
        return all.toString();
    }

    static void due(StringBuilder run, String call, long got, long want) {
        run.append(call).append(" = ").append(got).append('\n');
        if (got != want) {
            wrong++;
            if (wrong < 4) {
                System.out.println(run);
                System.out.println(call + " answered " + got + ", due is " + want);
            }
        }
    }

    static void sayText(SilkHouse x, Model y, StringBuilder run) {
        String all = text();
        for (int at = 0; at < all.length();) {
            int n = Math.min(from(1, 8), all.length() - at);
            long bytes = any(2) == 0 ? 0 : any(1 << 20);
            for (int k = 0; k < n; k++) bytes = bytes << 8 | all.charAt(at + k);
            due(run, "feed(" + n + ", " + bytes + ")", x.feed(n, bytes), y.feed(n, bytes));
            at += n;
        }
        int day = any(4) == 0 ? near(0, 3000) : from(0, y.now + 3);
        due(run, "rule(" + day + ") of [" + all + "]", x.rule(day), y.rule(day));
        due(run, "fault()", x.fault(), y.fault);
    }

    static void skein(SilkHouse x, Model y, StringBuilder run, int b) {
        int look = any(20) == 0 ? near(0, 2) : from(0, 2);
        int scale = any(20) == 0 ? near(0, 3) : from(0, 3);
        int raw = any(10) == 0 ? near(100, 9999) : from(1, 4) * 250;
        int dry = any(10) == 0 ? near(50, Math.max(51, raw)) : raw * 9 / 10 + from(-6, 6) * (any(8) == 0 ? 9 : 1);
        int oven = any(20) == 0 ? near(0, 3) : from(0, 3);
        int hand = any(20) == 0 ? near(0, 7) : from(0, 3);
        due(run, "skein(" + b + ", " + look + ", " + scale + ", " + raw + ", " + dry + ", " + oven + ", " + hand + ")",
            x.skein(b, look, scale, raw, dry, oven, hand), y.skein(b, look, scale, raw, dry, oven, hand));
    }

    static int someBale(Model y) {
        return any(25) == 0 ? near(-1, 10) : from(0, Math.max(0, y.bales.size() - 1));
    }

    static void tell(SilkHouse x, Model y, StringBuilder run) {
        int b = someBale(y);
        switch (any(20)) {
            case 0: {
                int n = any(6) == 0 ? near(0, 999) : from(0, 4);
                due(run, "go(" + n + ")", x.go(n), y.go(n));
                break;
            }
            case 1: {
                int gross = near(1, 99999);
                due(run, "bale(" + gross + ")", x.bale(gross), y.bale(gross));
                break;
            }
            case 2, 3, 4, 5, 6, 7:
                skein(x, y, run, b);
                break;
            case 8: {
                int s = near(0, Math.max(0, y.skeins.size() - 1));
                if (any(2) == 0) due(run, "lose(" + s + ")", x.lose(s), y.lose(s));
                break;
            }
            case 9: {
                int scale = near(0, 3);
                int weight = near(1, 9999);
                int shown = any(4) == 0 ? near(1, 9999) : weight + from(-50, 50);
                due(run, "test(" + scale + ", " + shown + ", " + weight + ")", x.test(scale, shown, weight),
                    y.test(scale, shown, weight));
                break;
            }
            case 10:
                if (any(2) == 0) sayText(x, y, run);
                break;
            case 11: {
                int w = any(4) == 0 ? near(1, 999) : from(3, 20);
                due(run, "thread(" + b + ", " + w + ")", x.thread(b, w), y.thread(b, w));
                break;
            }
            case 12: {
                int v = near(0, 999);
                due(run, "turns(" + b + ", " + v + ")", x.turns(b, v), y.turns(b, v));
                break;
            }
            case 13: {
                int what = near(0, 1);
                int low = near(0, 999);
                int high = any(5) == 0 ? near(0, 999) : near(Math.max(0, Math.min(low, 998)), 999);
                due(run, "burnt(" + b + ", " + what + ", " + low + ", " + high + ")", x.burnt(b, what, low, high),
                    y.burnt(b, what, low, high));
                break;
            }
            case 14: {
                int m = any(3) == 0 ? near(1, 999) : 10 * from(1, 6);
                due(run, "load(" + m + ")", x.load(m), y.load(m));
                if (any(20) == 0) due(run, "empty()", x.empty(), y.empty());
                break;
            }
            case 15: {
                int[] n = {from(1, 60), 0, from(1, 60), 0};
                if (any(6) == 0) n = new int[] {near(1, 9999), 0, near(1, 9999), 0};
                n[1] = n[0] + from(-1, 30);
                n[3] = n[2] + from(-1, 30);
                due(run, "shared(" + n[0] + ", " + n[1] + ", " + n[2] + ", " + n[3] + ")",
                    x.shared(n[0], n[1], n[2], n[3]), y.shared(n[0], n[1], n[2], n[3]));
                break;
            }
            default:
                tellPaper(x, y, run, b);
        }
    }

    static void tellPaper(SilkHouse x, Model y, StringBuilder run, int b) {
        int p = near(0, Math.max(0, y.papers.size() - 1));
        switch (any(4)) {
            case 0:
                due(run, "certify(" + b + ")", x.certify(b), y.certify(b));
                break;
            case 1: {
                int price = near(0, 999);
                due(run, "bill(" + p + ", " + price + ")", x.bill(p, price), y.bill(p, price));
                break;
            }
            case 2: {
                int weight = y.noPaper(p) ? 10 : y.papers.get(p).amount;
                int a = any(4) == 0 ? near(0, Math.max(1, weight)) : from(0, Math.max(1, weight));
                int rest = any(5) == 0 ? weight - a + from(-1, 1) : weight - a;
                due(run, "cut(" + p + ", " + a + ", " + rest + ")", x.cut(p, a, rest), y.cut(p, a, rest));
                break;
            }
            default:
                if (any(3) == 0) due(run, "undo(" + p + ")", x.undo(p), y.undo(p));
        }
    }

    static void askBale(SilkHouse x, Model y, StringBuilder run, int b) {
        int what = near(0, 2);
        int day = any(2) == 0 ? y.now : near(0, y.now);
        switch (any(13)) {
            case 0 -> due(run, "ratio(" + b + ", " + what + ", 0)", x.ratio(b, what, 0), y.ratio(b, what, 0));
            case 1 -> due(run, "ratio(" + b + ", 0, " + what + ")", x.ratio(b, 0, what), y.ratio(b, 0, what));
            case 2 -> due(run, "state(" + b + ", " + day + ")", x.state(b, day), y.state(b, day));
            case 3 -> {
                int which = near(0, 1);
                due(run, "lawful(" + b + ", " + day + ", " + which + ")", x.lawful(b, day, which),
                    y.lawful(b, day, which));
            }
            case 4 -> {
                int which = near(0, 3);
                due(run, "span(" + b + ", " + which + ")", x.span(b, which), y.span(b, which));
            }
            case 5, 6 -> {
                int i = from(-2, 4);
                due(run, "cause(" + b + ", " + i + ")", x.cause(b, i), y.cause(b, i));
            }
            case 7 -> due(run, "odd(" + b + ", " + what + ")", x.odd(b, what), y.odd(b, what));
            case 8 -> {
                int risk = near(1, 100);
                due(run, "needed(" + b + ", " + risk + ")", x.needed(b, risk), y.needed(b, risk));
            }
            case 9 -> {
                int which = near(0, 3);
                due(run, "size(" + b + ", " + which + ")", x.size(b, which), y.size(b, which));
            }
            case 10 -> {
                int on = any(3) == 0 ? near(0, 3000) : from(0, y.now + 3);
                due(run, "named(" + b + ", " + on + ")", x.named(b, on), y.named(b, on));
            }
            case 11 -> due(run, "twist(" + b + ")", x.twist(b), y.twist(b));
            default -> {
                int g = near(0, 999);
                int a = near(0, 999);
                int w = near(0, 999);
                due(run, "cheat(" + b + ", " + g + ", " + a + ", " + w + ")", x.cheat(b, g, a, w), y.cheat(b, g, a, w));
            }
        }
    }

    static void askRest(SilkHouse x, Model y, StringBuilder run) {
        int day = any(3) == 0 ? near(0, 3000) : from(0, y.now + 3);
        switch (any(9)) {
            case 0 -> {
                int s = near(0, Math.max(0, y.skeins.size() - 1));
                int what = near(0, 8);
                due(run, "told(" + s + ", " + what + ")", x.told(s, what), y.told(s, what));
            }
            case 1 -> {
                int scale = near(0, 3);
                int what = near(0, 1);
                due(run, "error(" + scale + ", " + day + ", " + what + ")", x.error(scale, day, what),
                    y.error(scale, day, what));
            }
            case 2 -> {
                int what = near(0, 10);
                due(run, "count(" + what + ")", x.count(what), y.count(what));
            }
            case 3 -> {
                int name = near(0, 5);
                due(run, "force(" + name + ", " + day + ")", x.force(name, day), y.force(name, day));
            }
            case 4 -> {
                int clause = 100 * from(0, 8) + from(-1, 5);
                int i = from(-1, 8);
                due(run, "letter(" + clause + ", " + i + ")", x.letter(clause, i), y.letter(clause, i));
            }
            case 5 -> {
                int m = near(1, 3);
                int i = from(-2, 8);
                due(run, "order(" + m + ", " + i + ")", x.order(m, i), y.order(m, i));
            }
            case 6 -> {
                int what = near(0, 2);
                due(run, "houses(" + what + ")", x.houses(what), y.houses(what));
            }
            case 7 -> {
                int p = near(0, Math.max(0, y.papers.size() - 1));
                int what = near(0, 6);
                due(run, "paper(" + p + ", " + what + ")", x.paper(p, what), y.paper(p, what));
            }
            default -> {
                int on = any(3) == 0 ? day : near(0, y.now);
                int what = near(0, 1);
                due(run, "stood(" + on + ", " + what + ")", x.stood(on, what), y.stood(on, what));
            }
        }
    }

    /** Numbers far from all bounds: nothing may be thrown, and the answers are as due. */
    static void askWild(SilkHouse x, Model y, StringBuilder run) {
        int a = wild();
        int b = wild();
        int c = wild();
        String call = "(" + a + ", " + b + ", " + c + ")";
        switch (any(16)) {
            case 0 -> due(run, "go" + call, x.go(Math.min(a, b)), y.go(Math.min(a, b)));
            case 1 -> due(run, "told" + call, x.told(a, b), y.told(a, b));
            case 2 -> due(run, "error" + call, x.error(a, b, c), y.error(a, b, c));
            case 3 -> due(run, "ratio" + call, x.ratio(a, b, c), y.ratio(a, b, c));
            case 4 -> due(run, "force" + call, x.force(a, b), y.force(a, b));
            case 5 -> due(run, "letter" + call, x.letter(a, b), y.letter(a, b));
            case 6 -> due(run, "lawful" + call, x.lawful(a, b, c), y.lawful(a, b, c));
            case 7 -> due(run, "cause" + call, x.cause(a, b), y.cause(a, b));
            case 8 -> due(run, "order" + call, x.order(a, b), y.order(a, b));
            case 9 -> due(run, "cut" + call, x.cut(a, b, c), y.cut(a, b, c));
            case 10 -> due(run, "paper" + call, x.paper(a, b), y.paper(a, b));
            case 11 -> due(run, "stood" + call, x.stood(a, b), y.stood(a, b));
            case 12 -> due(run, "count" + call, x.count(a), y.count(a));
            case 13 -> due(run, "span" + call, x.span(a, b), y.span(a, b));
            case 14 -> due(run, "size" + call, x.size(a, b), y.size(a, b));
            default -> due(run, "feed" + call, x.feed(a, b), y.feed(a, b));
        }
    }

    static void say(SilkHouse x, Model y, StringBuilder run, String all, int day) {
        for (int at = 0; at < all.length(); at += 8) {
            int n = Math.min(8, all.length() - at);
            long bytes = 0;
            for (int k = 0; k < n; k++) bytes = bytes << 8 | all.charAt(at + k);
            due(run, "feed", x.feed(n, bytes), y.feed(n, bytes));
        }
        due(run, "rule(" + day + ") of [" + all + "]", x.rule(day), y.rule(day));
    }

    /** Tells as much as there is room for, and asks everything then. */
    static void fullHouse() {
        SilkHouse x = new SilkHouse();
        Model y = new Model();
        StringBuilder run = new StringBuilder("a full house:\n");
        for (int b = 0; b < 11; b++) due(run, "bale", x.bale(900 + b), y.bale(900 + b));
        say(x, y, run, "let looks 1;let skeins 1;", 0);
        for (int t = 0; t < 31; t++) {
            if (t % 6 == 5) due(run, "go", x.go(1), y.go(1));
            due(run, "test", x.test(t * 7 % 4, 500 + t, 510), y.test(t * 7 % 4, 500 + t, 510));
        }
        for (int s = 0; s < 61; s++) {
            int b = s < 36 ? 9 : s % 9;
            int dry = 950 - s * 13 % 29;
            due(run, "skein", x.skein(b, s % 3, s % 4, 1000, dry, s % 4, s % 8), y.skein(b, s % 3, s % 4, 1000, dry, s % 4, s % 8));
        }
        String words = "name aaaaaaaa 1 to 2;name bbbbbbbb 2 to 30;name cccccccc 1 to 9999;strike 0;";
        for (int r = 1; r < 9; r++) say(x, y, run, r == 8 ? "take least;" : words + "let part " + r + ";", 9 - r);
        for (int k = 0; k < 13; k++) due(run, "thread", x.thread(9, 5 + k), y.thread(9, 5 + k));
        for (int k = 0; k < 9; k++) {
            due(run, "turns", x.turns(9, 90 - k % 5), y.turns(9, 90 - k % 5));
            due(run, "load", x.load(70 + k * k), y.load(70 + k * k));
            due(run, "shared", x.shared(5 + k, 9 + k, 4, 5), y.shared(5 + k, 9 + k, 4, 5));
        }
        papersTillFull(x, y, run);
        askAll(x, y, run);
    }

    static void papersTillFull(SilkHouse x, Model y, StringBuilder run) {
        due(run, "certify(9)", x.certify(9), y.certify(9));
        int half = y.papers.get(0).amount / 2;
        int rest = y.papers.get(0).amount - half;
        due(run, "cut(0, ..)", x.cut(0, half, rest), y.cut(0, half, rest));
        for (int k = 0; k < 39; k++) {
            due(run, "bill", x.bill(1 + k % 2, k), y.bill(1 + k % 2, k));
            if (k == 20) due(run, "undo(1)", x.undo(1), y.undo(1));
            if (k % 9 == 0) due(run, "go(1)", x.go(1), y.go(1));
            if (k % 4 == 0) due(run, "certify", x.certify(k / 4), y.certify(k / 4));
        }
    }

    static void askAll(SilkHouse x, Model y, StringBuilder run) {
        for (int a = -1; a <= 60; a++) {
            for (int b = -1; b <= 9; b++) {
                due(run, "told(" + a + ", " + b + ")", x.told(a, b), y.told(a, b));
                due(run, "paper(" + a + ", " + b + ")", x.paper(a, b), y.paper(a, b));
            }
            due(run, "count(" + a + ")", x.count(a), y.count(a));
            due(run, "lose(" + a + ")", a % 9 == 0 ? x.lose(a) : 0, a % 9 == 0 ? y.lose(a) : 0);
        }
        for (int b = -1; b <= 10; b++) {
            for (int k = -2; k <= 9; k++) {
                for (int n = 0; n < 3; n++) due(run, "ratio", x.ratio(b, k, n), y.ratio(b, k, n));
                due(run, "state(" + b + ", " + k + ")", x.state(b, k), y.state(b, k));
                due(run, "lawful(" + b + ", " + k + ", 0)", x.lawful(b, k, 0), y.lawful(b, k, 0));
                due(run, "span(" + b + ", " + k + ")", x.span(b, k), y.span(b, k));
                due(run, "cause(" + b + ", " + k + ")", x.cause(b, k), y.cause(b, k));
                due(run, "odd(" + b + ", " + k + ")", x.odd(b, k), y.odd(b, k));
                due(run, "size(" + b + ", " + k + ")", x.size(b, k), y.size(b, k));
                due(run, "named(" + b + ", " + k + ")", x.named(b, k), y.named(b, k));
                due(run, "cheat(" + b + ", 0, 0, " + 9 * k + ")", x.cheat(b, 0, 0, 9 * k), y.cheat(b, 0, 0, 9 * k));
            }
            due(run, "needed(" + b + ", 10)", x.needed(b, 10), y.needed(b, 10));
            due(run, "twist(" + b + ")", x.twist(b), y.twist(b));
        }
        for (int k = -2; k <= 9; k++) {
            for (int n = -1; n <= 8; n++) {
                due(run, "error(" + n + ", " + k + ", 0)", x.error(n, k, 0), y.error(n, k, 0));
                due(run, "error(" + n + ", " + k + ", 1)", x.error(n, k, 1), y.error(n, k, 1));
                due(run, "force(" + n + ", " + k + ")", x.force(n, k), y.force(n, k));
                due(run, "order(" + n + ", " + k + ")", x.order(n, k), y.order(n, k));
                for (int c = 0; c < 13; c++) {
                    int clause = 100 * n + c;
                    due(run, "letter(" + clause + ", " + k + ")", x.letter(clause, k), y.letter(clause, k));
                }
            }
            due(run, "houses(" + k + ")", x.houses(k), y.houses(k));
            due(run, "stood(" + k + ", 0)", x.stood(k, 0), y.stood(k, 0));
            due(run, "stood(" + k + ", 1)", x.stood(k, 1), y.stood(k, 1));
        }
        due(run, "fault()", x.fault(), y.fault);
    }

    public static void main(String[] args) {
        fullHouse();
        int runs = args.length > 0 ? Integer.parseInt(args[0]) : 1500;
        int answers = 0;
        for (int k = 0; k < runs; k++) {
            seed = k + 1;
            SilkHouse x = new SilkHouse();
            Model y = new Model();
            StringBuilder run = new StringBuilder("run " + k + ":\n");
            int bales = from(1, 3);
            for (int b = 0; b < bales; b++) due(run, "bale(1000)", x.bale(1000 + b), y.bale(1000 + b));
            if (any(2) == 0) sayText(x, y, run);
            // Every eighth run tells far more than it asks, so that it comes to what is FULL.
            boolean eager = k % 8 == 0;
            for (int call = 0; call < (eager ? 420 : 280); call++) {
                switch (eager && any(2) == 0 ? 0 : any(9)) {
                    case 0, 1, 2, 3 -> tell(x, y, run);
                    case 4, 5, 6 -> askBale(x, y, run, someBale(y));
                    case 7 -> askRest(x, y, run);
                    default -> {
                        if (any(6) == 0) askWild(x, y, run);
                        else askRest(x, y, run);
                    }
                }
                answers++;
            }
        }
        System.out.println(answers + " turns held against the model, " + wrong + " answers are not as due");
        if (wrong != 0) System.exit(1);
    }
}
