import java.util.ArrayList;
import java.util.HashMap;
import java.util.HashSet;
import java.util.LinkedHashMap;
import java.util.List;
import java.util.Map;
import java.util.Set;
import java.util.regex.Matcher;
import java.util.regex.Pattern;

/** A second reckoning of the document, slow and free in its means, to hold the class against. */
final class Model {
    private static final int NONE = -1;
    private static final Set<String> NO_NAMES = Set.of("hurt", "when", "do", "double", "half", "add", "less",
        "share", "need", "rank", "terms", "days", "or", "and", "not", "other", "place", "night", "kin", "truce", "sum");

    private record Told(int person, int rank, int from, int on) { }

    private record Truce(int a, int b, int from, int to) { }

    private record Paid(int which, int on, int worth) { }

    private record Person(int folk, int mother, int father) { }

    private record When(Condition e, String deed, int n) { }

    private interface Condition {
        int value(Map<String, Integer> facts);
    }

    private static final class Text {
        int from;
        final Map<String, Integer> hurts = new LinkedHashMap<>();
        final List<When> whens = new ArrayList<>();
        int[] share;
        int[] need;
        int[] terms;
    }

    private static final class Deed {
        int by;
        int of;
        String name;
        int day;
        int place;
        boolean night;
        int cleared = NONE;
        int judged = NONE;
        int due;
        int[] terms;
    }

    private static final class Fault extends RuntimeException {
        private static final long serialVersionUID = 1L;
        final int kind;
        final int place;

        Fault(int kind, int place) {
            this.kind = kind;
            this.place = place;
        }
    }

    private StringBuilder tape = new StringBuilder();
    private final List<List<Text>> laws = List.of(
        new ArrayList<>(), new ArrayList<>(), new ArrayList<>(), new ArrayList<>());
    private int faultKind;
    private int faultPlace = NONE;
    private int now;
    private final List<Person> people = new ArrayList<>();
    private final Map<Integer, Integer> dead = new HashMap<>();
    private final List<Told> tolds = new ArrayList<>();
    private final List<Truce> truces = new ArrayList<>();
    private final List<Deed> deeds = new ArrayList<>();
    private final List<Paid> paid = new ArrayList<>();
    private final int[] rates = new int[4];
    private int ratesTold;

    int feed(int... numbers) {
        if (tape.length() > 680) {
            return NONE;
        }
        for (int number : numbers) {
            for (int i = 3; i >= 0; i--) {
                tape.append((char) (number >> 8 * i & 0xff));
            }
        }
        return tape.length();
    }

    int end(int n) {
        if (n < 0 || n > tape.length()) {
            return NONE;
        }
        tape.setLength(n);
        return n;
    }

    int law(int folk, int day) {
        if (folk < 0 || folk > 3 || day < 0 || day > 100000 || laws.get(folk).size() == 4) {
            return -2;
        }
        String text = tape.toString();
        tape = new StringBuilder();
        faultKind = 0;
        faultPlace = NONE;
        try {
            Text read = new Parser(text).text();
            read.from = day;
            laws.get(folk).add(read);
            return laws.get(folk).size();
        } catch (Fault fault) {
            faultKind = fault.kind;
            faultPlace = fault.place;
            return NONE;
        }
    }

    int fault(int what) {
        return what == 0 ? faultKind : what == 1 ? faultPlace : NONE;
    }

    int lawOn(int folk, int day) {
        int best = NONE;
        if (folk < 0 || folk > 3) {
            return NONE;
        }
        List<Text> told = laws.get(folk);
        for (int i = 0; i < told.size(); i++) {
            if (told.get(i).from <= day && (best == NONE || told.get(i).from >= told.get(best).from)) {
                best = i;
            }
        }
        return best;
    }

    int person(int folk, int mother, int father) {
        boolean parents = mother >= -1 && mother < people.size() && father >= -1 && father < people.size();
        if (folk < 0 || folk > 3 || !parents || people.size() == 20) {
            return NONE;
        }
        people.add(new Person(folk, mother, father));
        return people.size() - 1;
    }

    int degree(int a, int b) {
        if (nobody(a) || nobody(b)) {
            return NONE;
        }
        Set<Integer> seen = new HashSet<>(Set.of(a));
        for (int steps = 0; steps <= 20; steps++) {
            if (seen.contains(b)) {
                return steps;
            }
            Set<Integer> wider = new HashSet<>(seen);
            for (int p = 0; p < people.size(); p++) {
                for (int parent : new int[] {people.get(p).mother, people.get(p).father}) {
                    if (parent != NONE && seen.contains(p)) {
                        wider.add(parent);
                    }
                    if (parent != NONE && seen.contains(parent)) {
                        wider.add(p);
                    }
                }
            }
            seen = wider;
        }
        return NONE;
    }

    int rank(int person, int rank, int day) {
        if (nobody(person) || rank < 0 || rank > 3 || day < 0 || day > 100000 || tolds.size() == 60) {
            return NONE;
        }
        tolds.add(new Told(person, rank, day, now));
        return tolds.size();
    }

    int ranked(int person, int d, int k) {
        if (nobody(person)) {
            return NONE;
        }
        Told best = null;
        for (Told told : tolds) {
            if (told.person == person && told.on <= k && told.from <= d && (best == null || told.from >= best.from)) {
                best = told;
            }
        }
        return best == null ? 0 : best.rank;
    }

    boolean dead(int person, int day) {
        return !nobody(person) && day >= 0 && day <= 100000 && dead.putIfAbsent(person, day) == null;
    }

    int truce(int a, int b, int from, int to) {
        boolean folk = a >= 0 && a <= 3 && b >= 0 && b <= 3;
        if (!folk || from < 0 || from > to || to > 100000 || truces.size() == 10) {
            return NONE;
        }
        truces.add(new Truce(a, b, from, to));
        return truces.size();
    }

    int later(int days) {
        if (days < 0 || days > 1000 || now + days > 100000) {
            return NONE;
        }
        return now += days;
    }

    int hurt(int by, int of, long name, int day, int place, boolean night) {
        StringBuilder letters = new StringBuilder();
        for (long rest = name; rest != 0; rest >>>= 8) {
            letters.insert(0, (char) (rest & 255));
        }
        String word = letters.toString();
        if (nobody(by) || nobody(of) || by == of || !word.matches("[a-z]{1,8}") || NO_NAMES.contains(word)) {
            return NONE;
        }
        if (day < 0 || day > now || place < 0 || place > 3 || deeds.size() == 20) {
            return NONE;
        }
        Deed deed = new Deed();
        deed.by = by;
        deed.of = of;
        deed.name = word;
        deed.day = day;
        deed.place = place;
        deed.night = night;
        deeds.add(deed);
        return deeds.size() - 1;
    }

    int sum(int which, int k) {
        Text text = lawOf(which);
        if (text == null || !text.hurts.containsKey(deeds.get(which).name)) {
            return NONE;
        }
        Deed deed = deeds.get(which);
        if (deed.cleared != NONE && deed.cleared <= k) {
            return 0;
        }
        int degree = degree(deed.by, deed.of);
        Map<String, Integer> facts = new HashMap<>();
        facts.put("rank", ranked(deed.of, deed.day, k));
        facts.put("other", ranked(deed.by, deed.day, k));
        facts.put("place", deed.place);
        facts.put("night", deed.night ? 1 : 0);
        facts.put("kin", degree >= 0 && degree < 4 ? 1 : 0);
        facts.put("truce", of(which, 3));
        long price = text.hurts.get(deed.name);
        for (When when : text.whens) {
            facts.put("sum", (int) price);
            if (when.e.value(facts) != 0) {
                price = switch (when.deed) {
                    case "double" -> price * 2;
                    case "half" -> price / 2;
                    case "add" -> price + when.n;
                    default -> price - when.n;
                };
                price = Math.max(0, Math.min(10000000, price));
            }
        }
        return (int) price;
    }

    int oath(int which, int helpers) {
        Text text = lawOf(which);
        if (text == null || deeds.get(which).cleared != NONE || deeds.get(which).judged != NONE) {
            return NONE;
        }
        Deed deed = deeds.get(which);
        int good = 0;
        for (int bit = 0; bit < 32; bit++) {
            if ((helpers & 1 << bit) != 0) {
                good++;
                if (nobody(bit) || bit == deed.by || bit == deed.of || isDead(bit, now)
                        || degree(bit, deed.by) == 1 || ranked(bit, now, now) < text.need[1]) {
                    return 0;
                }
            }
        }
        if (good < text.need[0]) {
            return 0;
        }
        deed.cleared = now;
        return 1;
    }

    int of(int which, int what) {
        if (which < 0 || which >= deeds.size() || what < 0 || what > 5) {
            return NONE;
        }
        Deed deed = deeds.get(which);
        Set<Integer> folk = Set.copyOf(List.of(people.get(deed.by).folk, people.get(deed.of).folk));
        boolean broken = truces.stream().anyMatch(t -> Set.copyOf(List.of(t.a, t.b)).equals(folk)
            && t.from <= deed.day && t.to >= deed.day);
        return new int[] {deed.by, deed.of, deed.day, broken ? 1 : 0, deed.cleared, deed.judged}[what];
    }

    int pays(int which, int person, int k) {
        int whole = sum(which, k);
        return whole == NONE || nobody(person) ? NONE
            : part(which, whole, deeds.get(which).by, deeds.get(which).of).getOrDefault(person, 0);
    }

    int has(int which, int person, int k) {
        int whole = sum(which, k);
        return whole == NONE || nobody(person) ? NONE
            : part(which, whole, deeds.get(which).of, deeds.get(which).by).getOrDefault(person, 0);
    }

    private Map<Integer, Integer> part(int which, int whole, int head, int without) {
        int[] share = lawOf(which).share;
        int all = share[0] + share[1] + share[2] + share[3];
        Map<Integer, Integer> parts = new HashMap<>();
        int given = 0;
        for (int degree = 1; degree <= 3; degree++) {
            List<Integer> kin = new ArrayList<>();
            for (int p = 0; p < people.size(); p++) {
                if (p != without && degree(p, head) == degree && !isDead(p, deeds.get(which).day)
                        && people.get(p).folk == people.get(head).folk) {
                    kin.add(p);
                }
            }
            for (int p : kin) {
                int each = (int) ((long) whole * share[degree] / all) / kin.size();
                parts.put(p, each);
                given += each;
            }
        }
        parts.put(head, whole - given);
        return parts;
    }

    int judge(int which) {
        int whole = sum(which, now);
        if (whole == NONE || deeds.get(which).judged != NONE) {
            return NONE;
        }
        deeds.get(which).judged = now;
        deeds.get(which).due = whole;
        deeds.get(which).terms = lawOf(which).terms;
        return whole;
    }

    boolean rate(int kind, int worth) {
        if (kind < 0 || kind > 3 || worth < 0 || worth > 1000 || ratesTold == 100) {
            return false;
        }
        rates[kind] = worth;
        ratesTold++;
        return true;
    }

    int pay(int which, int kind, int beasts) {
        if (which < 0 || which >= deeds.size() || deeds.get(which).judged == NONE || kind < 0 || kind > 3
                || beasts < 1 || beasts > 1000 || paid.size() == 60) {
            return NONE;
        }
        paid.add(new Paid(which, now, rates[kind] * beasts));
        return rates[kind] * beasts;
    }

    /** Goes through the days one by one, as it was lived. */
    int owed(int which, int day) {
        if (which < 0 || which >= deeds.size() || deeds.get(which).judged == NONE
                || day < deeds.get(which).judged || day > now) {
            return -2000000001;
        }
        Deed deed = deeds.get(which);
        int n = deed.terms[0];
        int[] open = new int[n];
        for (int j = 0; j < n; j++) {
            open[j] = deed.due / n + (j == 0 ? deed.due % n : 0);
        }
        int at = 0;
        for (int today = deed.judged; today <= day; today++) {
            for (Paid one : paid) {
                open[Math.min(at, n - 1)] -= one.which == which && one.on == today ? one.worth : 0;
            }
            if (at < n && today == deed.judged + (at + 1) * deed.terms[1] && today < day) {
                int left = open[at] > 0 ? open[at] * 2 : open[at];
                open[at] = 0;
                open[Math.min(at + 1, n - 1)] += left;
                at++;
            }
        }
        int all = 0;
        for (int left : open) {
            all += left;
        }
        return all;
    }

    int about(int what) {
        return switch (what) {
            case 0 -> now;
            case 1 -> people.size();
            case 2 -> tolds.size();
            case 3 -> truces.size();
            case 4 -> deeds.size();
            case 5 -> paid.size();
            case 6 -> ratesTold;
            case 7 -> tape.length();
            case 10, 11, 12, 13 -> laws.get(what - 10).size();
            default -> NONE;
        };
    }

    private boolean nobody(int person) {
        return person < 0 || person >= people.size();
    }

    private boolean isDead(int person, int day) {
        return dead.getOrDefault(person, Integer.MAX_VALUE) <= day;
    }

    private Text lawOf(int which) {
        if (which < 0 || which >= deeds.size()) {
            return null;
        }
        int folk = people.get(deeds.get(which).of).folk;
        int number = lawOn(folk, deeds.get(which).day);
        return number == NONE ? null : laws.get(folk).get(number);
    }

    /** Reads a text straight from its characters, with a pattern for the next TOKEN. */
    private static final class Parser {
        private static final Pattern TOKEN = Pattern.compile("([a-z]{1,8}(?![a-z]))|([0-9]{1,6}(?![0-9a-z]))|[;()<>=]");
        private final String text;
        private int at;
        private int sums;

        Parser(String text) {
            this.text = text;
        }

        private String peek() {
            while (at < text.length() && " \n".indexOf(text.charAt(at)) >= 0) {
                at++;
            }
            if (at == text.length()) {
                return "";
            }
            Matcher matcher = TOKEN.matcher(text).region(at, text.length()).useTransparentBounds(true);
            if (!matcher.lookingAt()) {
                throw new Fault(1, at);
            }
            return matcher.group();
        }

        private boolean takes(String token) {
            boolean is = peek().equals(token);
            at += is ? token.length() : 0;
            return is;
        }

        private void must(boolean good) {
            if (!good) {
                peek();
                throw new Fault(2, at);
            }
        }

        private int number(int least, int most) {
            String token = peek();
            must(token.matches("[0-9]+"));
            int n = Integer.parseInt(token);
            if (n < least || n > most) {
                throw new Fault(4, at);
            }
            at += token.length();
            return n;
        }

        Text text() {
            Text read = new Text();
            while (!peek().isEmpty()) {
                line(read);
                must(takes(";"));
            }
            read.share = read.share == null ? new int[] {1, 0, 0, 0} : read.share;
            read.need = read.need == null ? new int[] {0, 0} : read.need;
            read.terms = read.terms == null ? new int[] {1, 1} : read.terms;
            return read;
        }

        private void line(Text read) {
            String word = peek();
            switch (word) {
                case "hurt" -> {
                    must(read.hurts.size() < 12);
                    at += 4;
                    String name = peek();
                    must(name.matches("[a-z]+") && !NO_NAMES.contains(name));
                    if (read.hurts.containsKey(name)) {
                        throw new Fault(3, at);
                    }
                    at += name.length();
                    read.hurts.put(name, number(0, 100000));
                }
                case "when" -> {
                    must(read.whens.size() < 16);
                    at += 4;
                    Condition e = either(0);
                    must(takes("do"));
                    String deed = peek();
                    must(Set.of("double", "half", "add", "less").contains(deed));
                    at += deed.length();
                    int n = deed.equals("add") || deed.equals("less") ? number(0, 100000) : 0;
                    read.whens.add(new When(e, deed, n));
                }
                case "share" -> {
                    must(read.share == null);
                    at += 5;
                    read.share = new int[] {number(0, 100), number(0, 100), number(0, 100), 0};
                    peek();
                    int place = at;
                    read.share[3] = number(0, 100);
                    if (read.share[0] + read.share[1] + read.share[2] + read.share[3] == 0) {
                        throw new Fault(4, place);
                    }
                }
                case "need" -> {
                    must(read.need == null);
                    at += 4;
                    int helpers = number(0, 12);
                    must(takes("rank"));
                    read.need = new int[] {helpers, number(0, 3)};
                }
                case "terms" -> {
                    must(read.terms == null);
                    at += 5;
                    int terms = number(1, 6);
                    must(takes("days"));
                    read.terms = new int[] {terms, number(1, 400)};
                }
                default -> must(false);
            }
        }

        private Condition either(int within) {
            must(within < 6);
            Condition left = both(within);
            while (takes("or")) {
                Condition a = left;
                Condition b = both(within);
                left = facts -> a.value(facts) != 0 || b.value(facts) != 0 ? 1 : 0;
            }
            return left;
        }

        private Condition both(int within) {
            Condition left = one(within);
            while (takes("and")) {
                Condition a = left;
                Condition b = one(within);
                left = facts -> a.value(facts) != 0 && b.value(facts) != 0 ? 1 : 0;
            }
            return left;
        }

        private Condition one(int within) {
            must(within < 6);
            if (takes("not")) {
                Condition e = one(within + 1);
                return facts -> e.value(facts) == 0 ? 1 : 0;
            }
            if (takes("(")) {
                Condition e = either(within + 1);
                must(takes(")"));
                return e;
            }
            Condition left = sum();
            String sign = peek();
            if (!Set.of("<", ">", "=").contains(sign)) {
                return left;
            }
            at++;
            Condition right = sum();
            return facts -> {
                int order = Integer.compare(left.value(facts), right.value(facts));
                return order == "<=>".indexOf(sign) - 1 ? 1 : 0;
            };
        }

        private Condition sum() {
            String token = peek();
            boolean word = Set.of("rank", "other", "place", "night", "kin", "truce", "sum").contains(token);
            must((word || token.matches("[0-9]+")) && sums < 60);
            sums++;
            at += token.length();
            return facts -> word ? facts.get(token) : Integer.parseInt(token);
        }
    }
}
