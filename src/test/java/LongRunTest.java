import java.util.Arrays;
import java.util.Random;
import java.util.Set;
import java.util.TreeSet;

/**
 * Long runs of calls that bring papers into every state: nothing is thrown but what the face names, a call that throws
 * changes nothing, and the land stays sound. With the argument "trace" and a number of runs, each call is printed with
 * its answer, so that two programs can be compared.
 */
public final class LongRunTest {
    private static final String[] READERS = {
        "haveConflict", "distance", "editorOf", "invitation", "evened", "openPoints", "priority", "hasConcern",
        "isRight", "likeness", "equalTo", "sees", "publicVersion", "index", "fieldIndex", "circle", "state", "letters",
        "letter", "rings", "checksum", "acceptedShare", "meanScore", "isSound",
    };
    private static final String WRITERS = "addPerson tellConflict sendAway addEditor tie begin addAuthor dropAuthor sign"
            + " revise withdraw assign invite answer report meet decide appeal transfer showAhead embargo publish cite"
            + " retract step claim tellMoney move setRules alarm complain seat vote correct dropCitation goOn";
    private static boolean trace = false;

    private final Random random;
    private final int houses;
    private final Set<Character> lettersSeen;
    private final int[] authors = new int[12];
    private final int[] elder = new int[12];
    private final int[] panel = new int[12];
    private Refereehall x = new Refereehall();
    private int people = 0;
    private int papers = 0;
    private int calls = 0;

    private LongRunTest(long seed, Set<Character> seen) {
        random = new Random(seed);
        houses = 7 + random.nextInt(4);
        lettersSeen = seen;
    }

    public static void main(String[] args) {
        trace = args.length > 0 && args[0].equals("trace");
        int runs = args.length > 1 ? Integer.parseInt(args[1]) : 300;
        Set<Character> seen = new TreeSet<>();
        for (int i = 0; i < runs; i++) {
            new LongRunTest(i, seen).run();
        }
        if (!trace) {
            StringBuilder all = new StringBuilder();
            seen.forEach(all::append);
            Check.due("letters seen", all.toString(), "+-ACDEKNPQRSTUVWXbchijklmnruvyz");
            Check.end();
        }
    }

    private void run() {
        if (trace) {
            System.out.println("new");
        }
        int first = 8 + random.nextInt(13);
        for (int i = 0; i < first; i++) {
            people += answered(call("addPerson", random.nextInt(houses), words() | 1 << random.nextInt(2)));
        }
        for (int i = 0; i < first; i++) {
            if (random.nextInt(3) > 0) {
                call("addEditor", random.nextInt(people), random.nextInt(3));
            }
        }
        call("tie", 0, 1);
        while (calls < 500) {
            if (random.nextInt(100) < 75) {
                goAhead();
            } else {
                anything();
            }
        }
        Check.due("sound", x.isSound(), true);
        for (int i = 0; i < papers; i++) {
            for (int j = 0; j < x.letters(i); j++) {
                lettersSeen.add(x.letter(i, j));
            }
        }
    }

    private static int answered(Object answer) {
        return Calls.hasThrown(answer) ? 0 : 1;
    }

    private int words() {
        return random.nextInt(8) | (random.nextInt(10) == 0 ? random.nextInt(1048576) : 0);
    }

    /** The most natural call for some paper in its state. */
    private void goAhead() {
        if (papers == 0 || papers < 12 && random.nextInt(25) == 0) {
            int author = random.nextInt(people);
            if (answered(call("begin", author, random.nextInt(3), words() | 1)) == 1) {
                authors[papers] = 1 << author;
                elder[papers] = 0;
                papers++;
            }
            return;
        }
        int paper = random.nextInt(papers);
        switch (x.state(paper)) {
            case 'd':
                draft(paper);
                break;
            case 's':
                call(random.nextInt(12) == 0 ? "showAhead" : "assign", paper);
                break;
            case 'e':
                judge(paper);
                break;
            case 'q':
                anotherVersion("revise", paper);
                break;
            case 'k':
                sit(paper);
                break;
            case 'a':
                call("publish", paper);
                break;
            case 'x':
                if (random.nextBoolean()) {
                    call("appeal", paper);
                } else {
                    call("transfer", paper, random.nextInt(3));
                }
                break;
            case 'p':
                afterwards(paper);
                break;
            default:
                readOne();
        }
    }

    private int one(int set) {
        int many = Integer.bitCount(set);
        if (many == 0) {
            return random.nextInt(people);
        }
        int rest = set;
        for (int i = random.nextInt(many); i > 0; i--) {
            rest &= rest - 1;
        }
        return Integer.numberOfTrailingZeros(rest);
    }

    private void draft(int paper) {
        int person = random.nextInt(people);
        switch (random.nextInt(12)) {
            case 0:
                if (answered(call("addAuthor", paper, person)) == 1) {
                    authors[paper] |= 1 << person;
                }
                break;
            case 1:
                person = one(authors[paper]);
                if (answered(call("dropAuthor", paper, person)) == 1) {
                    authors[paper] &= ~(1 << person);
                }
                break;
            case 2:
                call("meet", paper, person, random.nextInt(3));
                break;
            default:
                call("sign", paper, one(authors[paper] | elder[paper]));
        }
    }

    private void anotherVersion(String name, int paper) {
        if (answered(call(name, paper, random.nextInt(3) == 0 ? 7 : words())) == 1) {
            elder[paper] = authors[paper];
        }
    }

    private int invited(int paper, char status) {
        int set = 0;
        for (int i = 0; i < people; i++) {
            set |= x.invitation(paper, i) == status ? 1 << i : 0;
        }
        return set;
    }

    private void judge(int paper) {
        int open = invited(paper, 'o');
        int taken = invited(paper, 'k');
        int reported = invited(paper, 'r');
        int what = random.nextInt(20);
        if (what == 0) {
            anotherVersion("revise", paper);
        } else if (what == 1) {
            call("alarm", paper, one(reported));
        } else if (what < 5) {
            call("meet", paper, one(reported), random.nextInt(3));
        } else if (what < 8 || Integer.bitCount(reported) > 2) {
            call("decide", paper);
        } else if (taken != 0 && what < 14) {
            int score = random.nextInt(3) == 0 ? random.nextInt(101) : 40 + random.nextInt(60);
            call("report", paper, one(taken), score, Math.max(0, random.nextInt(6) - 3), random.nextBoolean());
        } else if (open != 0 && what < 18) {
            call("answer", paper, one(open), random.nextInt(5) > 0);
        } else if (what == 18) {
            call("showAhead", paper);
        } else {
            call("invite", paper, 1 + random.nextInt(5));
        }
    }

    private void sit(int paper) {
        if (panel[paper] == 0 || random.nextInt(6) == 0) {
            Object answer = call("seat", paper);
            panel[paper] = answer instanceof Integer ? (Integer) answer : panel[paper];
        } else if (!"o".equals(String.valueOf(call("vote", paper, one(panel[paper]), random.nextInt(3) > 0)))
                && random.nextInt(3) == 0) {
            panel[paper] = 0;
        }
    }

    private void afterwards(int paper) {
        switch (random.nextInt(12)) {
            case 0:
                anotherVersion("correct", paper);
                break;
            case 1:
            case 2:
                call("sign", paper, one(authors[paper] | elder[paper]));
                break;
            case 3:
                call("complain", paper, random.nextInt(people));
                break;
            case 4:
                call("dropCitation", paper, random.nextInt(papers));
                break;
            case 5:
                if (random.nextInt(4) == 0) {
                    call("retract", paper);
                }
                break;
            case 6:
            case 7:
            case 8:
                sit(paper);
                break;
            default:
                readOne();
        }
    }

    private void anything() {
        int what = random.nextInt(20);
        if (what < 7) {
            readOne();
        } else if (what < 10 && papers > 0) {
            call("cite", random.nextInt(papers), random.nextInt(papers));
        } else if (what == 10) {
            call("goOn", 1 + random.nextInt(6));
        } else if (what == 11 && random.nextInt(4) == 0) {
            call("setRules", random.nextInt(3), 2 + random.nextInt(2), 35 + random.nextInt(30), random.nextInt(36),
                    "osd".charAt(random.nextInt(3)));
        } else {
            String[] names = WRITERS.split(" ");
            String name = names[random.nextInt(names.length)];
            boolean isRare = name.equals("tellConflict") || name.equals("withdraw") || name.equals("retract")
                    || name.equals("goOn") || name.equals("move") || name.equals("setRules") || name.equals("begin")
                    || name.equals("revise") || name.equals("correct") || name.equals("dropAuthor")
                    || name.equals("addAuthor");
            if (!isRare || random.nextInt(8) == 0) {
                callAtRandom(name);
            }
        }
    }

    private void readOne() {
        callAtRandom(READERS[random.nextInt(READERS.length)]);
    }

    private int number() {
        int kind = random.nextInt(30);
        if (kind == 0) {
            int[] edges = {-1, Integer.MIN_VALUE, Integer.MAX_VALUE, 100, 101, 1048576, 10000, 32, 64};
            return edges[random.nextInt(edges.length)];
        }
        return kind < 20 ? random.nextInt(Math.max(1, Math.min(papers, people))) : random.nextInt(20);
    }

    private void callAtRandom(String name) {
        Class<?>[] types = Calls.types(name);
        Object[] arguments = new Object[types.length];
        for (int i = 0; i < types.length; i++) {
            if (types[i] == int.class) {
                arguments[i] = number();
            } else if (types[i] == char.class) {
                arguments[i] = "+-*/osdx".charAt(random.nextInt(8));
            } else {
                arguments[i] = random.nextBoolean();
            }
        }
        if ((name.equals("sees") || name.equals("letter")) && papers > 0) {
            arguments[name.equals("sees") ? 1 : 0] = random.nextInt(papers);
        }
        if (name.equals("addPerson") && people > 15) {
            return;
        }
        Object answer = call(name, arguments);
        if (answered(answer) == 1) {
            follow(name, arguments);
        }
    }

    /** Keeps the driver's own rows in step with calls that were made at random. */
    private void follow(String name, Object[] arguments) {
        if (name.equals("addPerson")) {
            people++;
        } else if (name.equals("begin")) {
            authors[papers] = 1 << (Integer) arguments[0];
            papers++;
        } else if (name.equals("addAuthor")) {
            authors[(Integer) arguments[0]] |= 1 << (Integer) arguments[1];
        } else if (name.equals("dropAuthor")) {
            authors[(Integer) arguments[0]] &= ~(1 << (Integer) arguments[1]);
        } else if (name.equals("revise") || name.equals("correct")) {
            elder[(Integer) arguments[0]] = authors[(Integer) arguments[0]];
        }
    }

    private Object call(String name, Object... arguments) {
        calls++;
        String before = trace ? "" : Snapshot.of(x);
        Object answer = Calls.make(x, name, arguments);
        if (trace) {
            System.out.println(name + " " + Arrays.toString(arguments) + " -> " + answer);
        } else if (Calls.hasThrown(answer)) {
            Check.due("what " + name + " changes as it throws", Snapshot.of(x), before);
        }
        return answer;
    }
}
