/** Promises 9 to 14: papers in versions that all of their authors sign. */
public final class PapersTest {
    public static void main(String[] args) {
        begin();
        addAuthor();
        authorsWhoMayNot();
        dropAuthor();
        sign();
        signThoseDropped();
        revise();
        withdraw();
        Check.end();
    }

    private static void begin() {
        Refereehall x = Check.watch(new Refereehall());
        Check.outOfBounds("begin by nobody", () -> x.begin(0, 8, -1));
        x.addPerson(0, 0);
        Check.outOfBounds("begin by -1", () -> x.begin(-1, 0, 0));
        Check.badArgument("begin in field 8", () -> x.begin(0, 8, 0));
        Check.badArgument("begin in field -1", () -> x.begin(0, -1, 0));
        Check.badArgument("begin with words -1", () -> x.begin(0, 0, -1));
        Check.badArgument("begin with words 2^20", () -> x.begin(0, 0, 1048576));
        for (int i = 0; i < 12; i++) {
            Check.due("begin", x.begin(0, 7, 1048575), i);
        }
        Check.badState("13th paper", () -> x.begin(0, 0, 0));
        Check.badArgument("13th paper in field 8", () -> x.begin(0, 8, 0));
        Check.outOfBounds("13th paper by nobody", () -> x.begin(1, 0, 0));
        Check.due("state", x.state(11), 'd');
        Check.due("letters", x.letters(11), 1);
        Check.due("letter", x.letter(11, 0), 'b');
    }

    private static void addAuthor() {
        Land land = new Land(9);
        Refereehall x = land.x;
        Check.outOfBounds("no paper", () -> x.addAuthor(0, 1));
        x.begin(0, 0, 1);
        Check.outOfBounds("nobody", () -> x.addAuthor(0, 10));
        Check.outOfBounds("person -1", () -> x.addAuthor(0, -1));
        Check.outOfBounds("paper -1", () -> x.addAuthor(-1, 1));
        Check.unsupported("one already", () -> x.addAuthor(0, 0));
        for (int i = 1; i < 6; i++) {
            Check.due("authors", x.addAuthor(0, i), i + 1);
        }
        Check.unsupported("a 7th", () -> x.addAuthor(0, 6));
        Check.due("letters", land.file(0), "b+++++");
        x.dropAuthor(0, 5);
        for (int i = 0; i < 4; i++) {
            Check.due("not all", x.sign(0, i), false);
        }
        x.addAuthor(0, 5);
        for (int i = 0; i < 5; i++) {
            Check.due("signatures were taken away", x.sign(0, i), false);
        }
        Check.due("all", x.sign(0, 5), true);
        Check.unsupported("in state s", () -> x.addAuthor(0, 6));
    }

    private static void authorsWhoMayNot() {
        Land land = new Land(9);
        Refereehall x = land.x;
        land.taken(0, 1, 2);
        land.score(0, 60, 1);
        x.revise(0, 1);
        Check.unsupported("its editor", () -> x.addAuthor(0, 9));
        Check.unsupported("who reported", () -> x.addAuthor(0, 1));
        Check.due("who took an invitation", x.addAuthor(0, 2), 2);

        Land other = new Land(9, 8);
        Refereehall y = other.x;
        other.rejected(0, 1, 2);
        y.appeal(0);
        Check.due("another editor", y.assign(0), 9);
        y.revise(0, 1);
        Check.unsupported("whose report counts no more", () -> y.addAuthor(0, 1));
        Check.due("who was its editor", y.addAuthor(0, 8), 2);
        Check.due("sound", y.isSound(), true);
    }

    private static void dropAuthor() {
        Land land = new Land(9);
        Refereehall x = land.x;
        Check.outOfBounds("no paper", () -> x.dropAuthor(0, 1));
        x.begin(0, 0, 1);
        Check.outOfBounds("nobody", () -> x.dropAuthor(0, 10));
        Check.unsupported("the only one", () -> x.dropAuthor(0, 0));
        Check.unsupported("none of it", () -> x.dropAuthor(0, 1));
        x.addAuthor(0, 1);
        x.addAuthor(0, 2);
        x.sign(0, 0);
        Check.due("one less", x.dropAuthor(0, 2), 2);
        Check.due("signatures were taken away", x.sign(0, 1), false);
        Check.due("signed", x.sign(0, 0), true);
        Check.due("letters", land.file(0), "b++y-yyS");
        Check.unsupported("in state s", () -> x.dropAuthor(0, 1));
    }

    private static void sign() {
        Land land = new Land(9);
        Refereehall x = land.x;
        Check.outOfBounds("no paper", () -> x.sign(0, 0));
        x.begin(0, 0, 1);
        x.addAuthor(0, 1);
        Check.outOfBounds("nobody", () -> x.sign(0, 10));
        Check.unsupported("not needed", () -> x.sign(0, 2));
        Check.due("first", x.sign(0, 1), false);
        Check.unsupported("is there", () -> x.sign(0, 1));
        Check.due("still a draft", x.state(0), 'd');
        Check.due("last", x.sign(0, 0), true);
        Check.due("signed", x.state(0), 's');
        Check.due("letters", land.file(0), "b+yyS");
        Check.unsupported("in state s", () -> x.sign(0, 0));
        x.assign(0);
        x.revise(0, 1);
        x.sign(0, 0);
        x.sign(0, 1);
        Check.due("signed with an editor", x.state(0), 'e');
    }

    private static void signThoseDropped() {
        Land land = new Land(9);
        Refereehall x = land.x;
        x.begin(0, 0, 1);
        x.addAuthor(0, 1);
        x.sign(0, 0);
        x.sign(0, 1);
        x.revise(0, 1);
        x.dropAuthor(0, 1);
        Check.due("the author alone does not do", x.sign(0, 0), false);
        Check.due("with the one who is none any more", x.sign(0, 1), true);
        x.revise(0, 1);
        Check.unsupported("an author of two versions ahead", () -> x.sign(0, 1));
        Check.due("the author alone does", x.sign(0, 0), true);
        Check.due("sound", x.isSound(), true);
    }

    private static void revise() {
        Land land = new Land(9);
        Refereehall x = land.x;
        Check.outOfBounds("no paper", () -> x.revise(0, -1));
        x.begin(0, 0, 1);
        Check.badArgument("words -1", () -> x.revise(0, -1));
        Check.badArgument("words 2^20", () -> x.revise(0, 1048576));
        Check.unsupported("in state d", () -> x.revise(0, 1));
        x.addAuthor(0, 1);
        x.sign(0, 0);
        x.sign(0, 1);
        for (int i = 1; i < 6; i++) {
            Check.due("version", x.revise(0, i), i);
            Check.due("state", x.state(0), 'd');
            Check.due("the same authors", x.haveConflict(0, 1), true);
            x.sign(0, 0);
            Check.due("signed", x.sign(0, 1), true);
        }
        Check.unsupported("a 7th version", () -> x.revise(0, 1));
        Check.badArgument("a 7th version with bad words", () -> x.revise(0, -1));
        Check.due("letters", land.file(0).substring(0, 9), "b+yySvyyS");

        Land other = new Land(9);
        Refereehall y = other.x;
        other.taken(0, 1, 2);
        y.report(0, 1, 60, 1, false);
        y.report(0, 2, 60, 0, false);
        Check.due("another version is asked for", y.decide(0), 'q');
        Check.due("in state q", y.revise(0, 1), 1);
        Check.due("keeps its editor", y.editorOf(0), 9);
        y.sign(0, 0);
        y.meet(0, 1, 0);
        Check.due("accepted", y.decide(0), 'a');
        Check.unsupported("in state a", () -> y.revise(0, 1));
    }

    private static void withdraw() {
        Land land = new Land(9);
        Refereehall x = land.x;
        Check.outOfBounds("no paper", () -> x.withdraw(0));
        x.begin(0, 0, 1);
        Check.due("a draft", x.withdraw(0), 'd');
        Check.unsupported("again", () -> x.withdraw(0));
        Check.due("letters", land.file(0), "bW");
        land.signed(0);
        Check.due("a signed one", x.withdraw(1), 's');
        land.rejected(0, 1, 2);
        Check.due("a rejected one", x.withdraw(2), 'x');
        Check.due("its state", x.state(2), 'w');
        int paper = land.signed(0);
        x.addEditor(8, 0);
        x.assign(paper);
        land.take(paper, 1, 2);
        land.score(paper, 60, 1, 2);
        x.decide(paper);
        x.publish(paper);
        Check.unsupported("a published one", () -> x.withdraw(paper));
        x.retract(paper);
        Check.unsupported("a retracted one", () -> x.withdraw(paper));
    }
}
