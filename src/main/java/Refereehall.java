import java.util.ArrayList;
import java.util.Arrays;
import java.util.NoSuchElementException;

/** The papers of a learned land, as the document of the project tells it. */
public final class Refereehall {
    private static final int MOST_PEOPLE = 20;
    private static final int MOST_PAPERS = 12;
    private static final int MOST_VERSIONS = 6;
    private static final int MOST_AUTHORS = 6;
    private static final int MOST_STEPS = 10;
    private static final int HOUSES = 10;
    private static final int FIELDS = 8;
    private static final int MOST_WORDS = 1048575;
    private static final int HOUSE_DAYS = 60;
    private static final int LAPSE_DAYS = 14;
    private static final int MOST_LOAD = 3;
    private static final int COMMITTEE = 3;
    private static final int LEAST_EVENED = -50;
    private static final int MOST_EVENED = 150;
    private static final int NONE = -1;

    private final People people = new People();
    private final Net net = new Net();
    private final ArrayList<Paper> papers = new ArrayList<Paper>();
    // One number for each person, filled anew by each call that needs it.
    private final int[] row = new int[MOST_PEOPLE];
    private int day = 0;

    public Refereehall() {
    }

    // ---- people and fields

    public int addPerson(int house, int words) throws IllegalArgumentException, IllegalStateException {
        if (!isWithin(house, 0, HOUSES - 1) || !isWithin(words, 0, MOST_WORDS)) {
            throw new IllegalArgumentException();
        }
        if (people.count >= MOST_PEOPLE) {
            throw new IllegalStateException();
        }
        return people.enter(house, words);
    }

    public boolean tellConflict(int person, int other) throws IndexOutOfBoundsException {
        needPerson(person);
        needPerson(other);
        boolean hadNone = !areBound(person, other);
        people.kin[person] |= 1 << other;
        people.kin[other] |= 1 << person;
        return hadNone;
    }

    public boolean haveConflict(int person, int other) throws IndexOutOfBoundsException {
        needPerson(person);
        needPerson(other);
        return areBound(person, other);
    }

    public int sendAway(int person, int days) throws IndexOutOfBoundsException, IllegalArgumentException {
        needPerson(person);
        if (!isWithin(days, 0, 99)) {
            throw new IllegalArgumentException();
        }
        people.awayTo[person] = day + days - 1;
        return people.awayTo[person];
    }

    public int addEditor(int person, int field) throws IndexOutOfBoundsException, IllegalArgumentException {
        needPerson(person);
        needField(field);
        people.journals[person] |= 1 << field;
        return Integer.bitCount(people.journals[person]);
    }

    public boolean tie(int field, int other) throws IllegalArgumentException {
        needField(field);
        needField(other);
        if (field == other) {
            throw new IllegalArgumentException();
        }
        return net.join(field, other);
    }

    public int distance(int field, int other) throws IllegalArgumentException {
        needField(field);
        needField(other);
        return net.nearest(1 << field, other);
    }

    // ---- papers

    public int begin(int author, int field, int words)
            throws IndexOutOfBoundsException, IllegalArgumentException, IllegalStateException {
        needPerson(author);
        needField(field);
        needWords(words);
        if (papers.size() >= MOST_PAPERS) {
            throw new IllegalStateException();
        }
        Paper it = new Paper(field);
        it.versions.open(1 << author, words);
        it.file.note('b');
        papers.add(it);
        return papers.size() - 1;
    }

    public int addAuthor(int paper, int person) throws IndexOutOfBoundsException, UnsupportedOperationException {
        Paper it = paperAt(paper);
        needPerson(person);
        int authors = it.versions.lastAuthors();
        if (it.state != 'd' || holds(authors, person) || Integer.bitCount(authors) >= MOST_AUTHORS
                || it.editor == person || holds(it.reporters(), person)) {
            throw new UnsupportedOperationException();
        }
        it.versions.setAuthors(authors | 1 << person);
        it.file.note('+');
        return Integer.bitCount(it.versions.lastAuthors());
    }

    public int dropAuthor(int paper, int person) throws IndexOutOfBoundsException, UnsupportedOperationException {
        Paper it = paperAt(paper);
        needPerson(person);
        int authors = it.versions.lastAuthors();
        if (it.state != 'd' || !holds(authors, person) || Integer.bitCount(authors) <= 1) {
            throw new UnsupportedOperationException();
        }
        it.versions.setAuthors(authors & ~(1 << person));
        it.file.note('-');
        return Integer.bitCount(it.versions.lastAuthors());
    }

    public boolean sign(int paper, int person) throws IndexOutOfBoundsException, UnsupportedOperationException {
        Paper it = paperAt(paper);
        needPerson(person);
        if (it.state != 'd' && !it.correctionWaits() || !it.versions.lacks(person)) {
            throw new UnsupportedOperationException();
        }
        it.file.note('y');
        if (!it.versions.putSignature(person)) {
            return false;
        }
        if (it.state == 'd') {
            it.file.note('S');
            it.state = it.editor == NONE ? 's' : 'e';
        } else {
            it.file.note('U');
            it.versions.shown = it.versions.last();
            clearConcern(it);
        }
        return true;
    }

    public int revise(int paper, int words)
            throws IndexOutOfBoundsException, IllegalArgumentException, UnsupportedOperationException {
        Paper it = paperAt(paper);
        needWords(words);
        if (it.state != 'q' && it.state != 's' && it.state != 'e' || it.versions.count >= MOST_VERSIONS) {
            throw new UnsupportedOperationException();
        }
        it.versions.open(it.versions.lastAuthors(), words);
        it.state = 'd';
        it.file.note('v');
        return it.versions.last();
    }

    public char withdraw(int paper) throws IndexOutOfBoundsException, UnsupportedOperationException {
        Paper it = paperAt(paper);
        if (it.isOut() || it.state == 'w') {
            throw new UnsupportedOperationException();
        }
        char before = it.state;
        it.state = 'w';
        it.panel.dissolve();
        it.file.note('W');
        return before;
    }

    // ---- editors, referees, decisions

    public int assign(int paper) throws IndexOutOfBoundsException, UnsupportedOperationException, NoSuchElementException {
        Paper it = paperAt(paper);
        if (it.state != 's') {
            throw new UnsupportedOperationException();
        }
        int best = bestEditor(it);
        if (best == NONE) {
            throw new NoSuchElementException();
        }
        it.editor = best;
        it.editors |= 1 << best;
        it.state = 'e';
        it.file.note('E');
        return best;
    }

    public int editorOf(int paper) throws IndexOutOfBoundsException, NoSuchElementException {
        Paper it = paperAt(paper);
        if (it.editor == NONE) {
            throw new NoSuchElementException();
        }
        return it.editor;
    }

    public int invite(int paper, int many)
            throws IndexOutOfBoundsException, IllegalArgumentException, UnsupportedOperationException {
        Paper it = paperAt(paper);
        if (!isWithin(many, 1, 5)) {
            throw new IllegalArgumentException();
        }
        if (it.state != 'e') {
            throw new UnsupportedOperationException();
        }
        int sent = 0;
        for (int i = 0; i < many; i++) {
            int next = nextReferee(it);
            if (next != NONE) {
                it.ask(next, day);
                sent++;
            }
        }
        return sent;
    }

    public char invitation(int paper, int person) throws IndexOutOfBoundsException {
        Paper it = paperAt(paper);
        needPerson(person);
        return it.asked[person];
    }

    public int answer(int paper, int person, boolean takes)
            throws IndexOutOfBoundsException, UnsupportedOperationException {
        Paper it = paperAt(paper);
        needPerson(person);
        if (it.asked[person] != 'o' || takes && !canJudge(person, it)) {
            throw new UnsupportedOperationException();
        }
        char reply = takes ? 'k' : 'n';
        it.asked[person] = reply;
        it.file.note(reply);
        return it.howManyAsked('k');
    }

    public int report(int paper, int person, int score, int points, boolean goesAlong)
            throws IndexOutOfBoundsException, IllegalArgumentException, UnsupportedOperationException {
        Paper it = paperAt(paper);
        needPerson(person);
        if (!isWithin(score, 0, 100) || !isWithin(points, 0, 4)) {
            throw new IllegalArgumentException();
        }
        if (it.state != 'e' || it.asked[person] != 'k' || !canJudge(person, it)) {
            throw new UnsupportedOperationException();
        }
        it.reports.add(new Report(person, score, points, goesAlong, it.versions.last()));
        it.asked[person] = 'r';
        people.noteScore(person, score);
        it.file.note('r');
        return it.howManyCount();
    }

    public int evened(int paper, int person) throws IndexOutOfBoundsException, NoSuchElementException {
        Paper it = paperAt(paper);
        needPerson(person);
        Report its = it.reportBy(person);
        if (its == null) {
            throw new NoSuchElementException();
        }
        return people.evenOut(person, its.score);
    }

    public int meet(int paper, int person, int point)
            throws IndexOutOfBoundsException, UnsupportedOperationException, NoSuchElementException {
        Paper it = paperAt(paper);
        needPerson(person);
        Report its = it.reportBy(person);
        if (it.state != 'e' && it.state != 'd' || its == null || it.versions.last() <= its.version) {
            throw new UnsupportedOperationException();
        }
        if (!its.isOpen(point)) {
            throw new NoSuchElementException();
        }
        its.open &= ~(1 << point);
        it.file.note('m');
        return it.howManyOpen();
    }

    public int openPoints(int paper) throws IndexOutOfBoundsException {
        Paper it = paperAt(paper);
        return it.howManyOpen();
    }

    public char decide(int paper) throws IndexOutOfBoundsException, UnsupportedOperationException {
        Paper it = paperAt(paper);
        if (it.state != 'e' || !isRipe(it) || hasTiedAuthor(it.editor, it)) {
            throw new UnsupportedOperationException();
        }
        char verdict = verdictOn(paper, it);
        if (verdict == 'x' && it.editor != NONE) {
            it.rejecters |= 1 << it.editor;
        }
        it.state = verdict;
        it.file.note((char) (verdict - 'a' + 'A'));
        return verdict;
    }

    public int appeal(int paper) throws IndexOutOfBoundsException, UnsupportedOperationException {
        Paper it = paperAt(paper);
        if (it.state != 'x' || it.appealed) {
            throw new UnsupportedOperationException();
        }
        int counted = it.howManyCount();
        it.appealed = true;
        it.startAnew(false);
        it.file.note('l');
        return counted;
    }

    public int transfer(int paper, int field)
            throws IndexOutOfBoundsException, IllegalArgumentException, UnsupportedOperationException {
        Paper it = paperAt(paper);
        needField(field);
        if (field == it.field) {
            throw new IllegalArgumentException();
        }
        if (it.state != 'x') {
            throw new UnsupportedOperationException();
        }
        it.field = field;
        it.startAnew(true);
        it.file.note('T');
        return it.howManyCount();
    }

    // ---- what is public

    public int showAhead(int paper) throws IndexOutOfBoundsException, UnsupportedOperationException {
        Paper it = paperAt(paper);
        if (it.state != 's' && it.state != 'e' || it.shownOn != NONE) {
            throw new UnsupportedOperationException();
        }
        it.shownOn = day;
        it.file.note('h');
        return day;
    }

    public int priority(int paper) throws IndexOutOfBoundsException, NoSuchElementException {
        Paper it = paperAt(paper);
        if (it.firstDay() == NONE) {
            throw new NoSuchElementException();
        }
        return it.firstDay();
    }

    public int embargo(int paper, int day)
            throws IndexOutOfBoundsException, IllegalArgumentException, UnsupportedOperationException {
        Paper it = paperAt(paper);
        if (!isWithin(day, 0, 9999)) {
            throw new IllegalArgumentException();
        }
        if (it.isOut()) {
            throw new UnsupportedOperationException();
        }
        int before = it.heldTo;
        it.heldTo = day;
        return before;
    }

    public int publish(int paper) throws IndexOutOfBoundsException, UnsupportedOperationException {
        Paper it = paperAt(paper);
        if (it.state != 'a' || day < it.heldTo || !it.program.comesOut()) {
            throw new UnsupportedOperationException();
        }
        it.state = 'p';
        it.publishedOn = day;
        it.versions.shown = it.versions.last();
        it.file.note('P');
        return it.versions.last();
    }

    public int cite(int paper, int cited)
            throws IndexOutOfBoundsException, IllegalArgumentException, UnsupportedOperationException {
        Paper it = paperAt(paper);
        needPaper(cited);
        if (paper == cited) {
            throw new IllegalArgumentException();
        }
        if (it.isOut() || holds(it.cites, cited)) {
            throw new UnsupportedOperationException();
        }
        it.cites |= 1 << cited;
        return Integer.bitCount(it.cites);
    }

    public int retract(int paper) throws IndexOutOfBoundsException, UnsupportedOperationException {
        Paper it = paperAt(paper);
        if (it.state != 'p') {
            throw new UnsupportedOperationException();
        }
        return takeBack(paper, it);
    }

    public boolean hasConcern(int paper) throws IndexOutOfBoundsException {
        Paper it = paperAt(paper);
        return it.concern;
    }

    public int step(int paper, char operation, int number) throws IndexOutOfBoundsException,
            IllegalArgumentException, UnsupportedOperationException, IllegalStateException {
        Paper it = paperAt(paper);
        if (operation != '+' && operation != '-' && operation != '*' && operation != '/') {
            throw new IllegalArgumentException();
        }
        if (it.isOut()) {
            throw new UnsupportedOperationException();
        }
        if (it.program.count >= MOST_STEPS) {
            throw new IllegalStateException();
        }
        it.program.put(operation, number);
        return it.program.count;
    }

    public int claim(int paper, int claim) throws IndexOutOfBoundsException, UnsupportedOperationException {
        Paper it = paperAt(paper);
        if (it.isOut()) {
            throw new UnsupportedOperationException();
        }
        int before = it.program.claimed;
        it.program.claimed = claim;
        return before;
    }

    public boolean isRight(int paper) throws IndexOutOfBoundsException {
        Paper it = paperAt(paper);
        return it.program.comesOut();
    }

    public int likeness(int paper, int other) throws IndexOutOfBoundsException {
        Paper it = paperAt(paper);
        Paper its = paperAt(other);
        return wordsAlike(it.versions.lastWords(), its.versions.lastWords());
    }

    // ---- what ties and watches them

    public int tellMoney(int person, int other, int days) throws IndexOutOfBoundsException, IllegalArgumentException {
        needPerson(person);
        needPerson(other);
        if (person == other || !isWithin(days, 1, 999)) {
            throw new IllegalArgumentException();
        }
        int lastDay = day + days - 1;
        people.moneyTo[person * MOST_PEOPLE + other] = lastDay;
        people.moneyTo[other * MOST_PEOPLE + person] = lastDay;
        return lastDay;
    }

    public int move(int person, int house) throws IndexOutOfBoundsException, IllegalArgumentException {
        needPerson(person);
        if (!isWithin(house, 0, HOUSES - 1)) {
            throw new IllegalArgumentException();
        }
        int before = people.house[person];
        people.leftOn[person * HOUSES + before] = day;
        people.house[person] = house;
        return before;
    }

    public char setRules(int field, int needs, int accepts, int rejects, char way) throws IllegalArgumentException {
        needField(field);
        if (!isWithin(needs, 2, 4) || !isWithin(accepts, 0, 100) || !isWithin(rejects, 0, accepts)
                || way != 'o' && way != 's' && way != 'd') {
            throw new IllegalArgumentException();
        }
        char before = net.way[field];
        net.needs[field] = needs;
        net.accepts[field] = accepts;
        net.rejects[field] = rejects;
        net.way[field] = way;
        return before;
    }

    public boolean alarm(int paper, int person) throws IndexOutOfBoundsException, UnsupportedOperationException {
        Paper it = paperAt(paper);
        needPerson(person);
        Report its = it.reportBy(person);
        if (it.state != 'e' || its == null) {
            throw new UnsupportedOperationException();
        }
        boolean wasNone = !its.alarmed;
        its.alarmed = true;
        return wasNone;
    }

    public int equalTo(int paper) throws IndexOutOfBoundsException, NoSuchElementException {
        Paper it = paperAt(paper);
        int equal = lowestEqual(paper, it);
        if (equal == NONE) {
            throw new NoSuchElementException();
        }
        return equal;
    }

    public int complain(int paper, int person) throws IndexOutOfBoundsException, UnsupportedOperationException {
        Paper it = paperAt(paper);
        needPerson(person);
        if (it.state != 'p' || it.panel.complaintWaits || holds(it.versions.everAuthors(), person)) {
            throw new UnsupportedOperationException();
        }
        it.panel.complaintWaits = true;
        it.panel.complaints++;
        it.file.note('j');
        return it.panel.complaints;
    }

    public int seat(int paper) throws IndexOutOfBoundsException, UnsupportedOperationException, NoSuchElementException {
        Paper it = paperAt(paper);
        if (it.state != 'k' && !it.panel.complaintWaits || it.panel.members != 0 && !hasBarredMember(it)) {
            throw new UnsupportedOperationException();
        }
        int members = chooseMembers(it);
        if (Integer.bitCount(members) < COMMITTEE) {
            throw new NoSuchElementException();
        }
        it.panel.dissolve();
        it.panel.members = members;
        it.file.note('u');
        return members;
    }

    public char vote(int paper, int person, boolean confirms)
            throws IndexOutOfBoundsException, UnsupportedOperationException {
        Paper it = paperAt(paper);
        needPerson(person);
        if (!holds(it.panel.members, person) || holds(it.panel.voters(), person) || hasTiedAuthor(person, it)) {
            throw new UnsupportedOperationException();
        }
        it.file.note('c');
        if (!it.panel.putVote(person, confirms)) {
            return 'o';
        }
        it.panel.dissolve();
        it.panel.complaintWaits = false;
        if (confirms) {
            confirmPaper(paper, it);
            return 'c';
        }
        denyPaper(it);
        return 'd';
    }

    public boolean sees(int viewer, int paper, int person) throws IndexOutOfBoundsException {
        needPerson(viewer);
        Paper it = paperAt(paper);
        needPerson(person);
        if (!it.hasRole(person)) {
            return false;
        }
        if (viewer == person || viewer == it.editor || holds(it.panel.members, viewer)) {
            return true;
        }
        return seesAuthor(viewer, it, person) || seesEditor(viewer, it, person) || seesReferee(viewer, it, person);
    }

    public int correct(int paper, int words)
            throws IndexOutOfBoundsException, IllegalArgumentException, UnsupportedOperationException {
        Paper it = paperAt(paper);
        needWords(words);
        if (it.state != 'p' || it.correctionWaits() || it.versions.count >= MOST_VERSIONS) {
            throw new UnsupportedOperationException();
        }
        it.versions.open(it.versions.lastAuthors(), words);
        it.file.note('N');
        return it.versions.last();
    }

    public int dropCitation(int paper, int cited) throws IndexOutOfBoundsException, UnsupportedOperationException {
        Paper it = paperAt(paper);
        needPaper(cited);
        if (!holds(it.cites, cited) || it.state == 't' || it.state == 'p' && !it.correctionWaits()) {
            throw new UnsupportedOperationException();
        }
        it.cites &= ~(1 << cited);
        return Integer.bitCount(it.cites);
    }

    public int publicVersion(int paper) throws IndexOutOfBoundsException, NoSuchElementException {
        Paper it = paperAt(paper);
        if (!it.isOut()) {
            throw new NoSuchElementException();
        }
        return it.versions.shown;
    }

    public int index(int person) throws IndexOutOfBoundsException {
        needPerson(person);
        int best = 0;
        for (int h = 1; h <= MOST_PAPERS; h++) {
            if (citedAtLeast(person, h) >= h) {
                best = h;
            }
        }
        return best;
    }

    public float fieldIndex(int field, int days) throws IllegalArgumentException, ArithmeticException {
        needField(field);
        if (!isWithin(days, 1, 9999)) {
            throw new IllegalArgumentException();
        }
        int its = publishedIn(field);
        int many = Integer.bitCount(its);
        if (many == 0) {
            throw new ArithmeticException();
        }
        int citations = 0;
        for (int i = 0; i < papers.size(); i++) {
            Paper it = papers.get(i);
            if (it.state == 'p' && day - it.publishedOn < days) {
                citations += Integer.bitCount(it.cites & its);
            }
        }
        return (float) citations / (float) many;
    }

    public int circle(int person) throws IndexOutOfBoundsException {
        needPerson(person);
        for (int i = 0; i < people.count; i++) {
            row[i] = stepsFrom(i);
        }
        for (int over = 0; over < people.count; over++) {
            for (int i = 0; i < people.count; i++) {
                if (holds(row[i], over)) {
                    row[i] |= row[over];
                }
            }
        }
        int members = 0;
        for (int i = 0; i < people.count; i++) {
            if (i == person || holds(row[person], i) && holds(row[i], person)) {
                members++;
            }
        }
        return members >= 2 ? members : 0;
    }

    // ---- records

    public char state(int paper) throws IndexOutOfBoundsException {
        Paper it = paperAt(paper);
        return it.state;
    }

    public int letters(int paper) throws IndexOutOfBoundsException {
        Paper it = paperAt(paper);
        return it.file.count;
    }

    public char letter(int paper, int index) throws IndexOutOfBoundsException {
        Paper it = paperAt(paper);
        if (index < 0 || index >= it.file.count) {
            throw new IndexOutOfBoundsException();
        }
        return it.file.at(index);
    }

    public int goOn(int days) throws IllegalArgumentException {
        if (!isWithin(days, 1, 99)) {
            throw new IllegalArgumentException();
        }
        day += days;
        int lapsed = 0;
        for (int i = 0; i < papers.size(); i++) {
            lapsed += papers.get(i).letLapse(day);
        }
        return lapsed;
    }

    public int rings() {
        for (int i = 0; i < people.count; i++) {
            row[i] = praisedBy(i);
        }
        int pairs = 0;
        for (int i = 0; i < people.count; i++) {
            for (int j = i + 1; j < people.count; j++) {
                if (holds(row[i], j) && holds(row[j], i)) {
                    pairs++;
                }
            }
        }
        return pairs;
    }

    public long checksum() {
        long sum = 0;
        for (int i = 0; i < papers.size(); i++) {
            sum = papers.get(i).file.addTo(sum);
        }
        return sum;
    }

    public float acceptedShare() throws ArithmeticException {
        int all = papers.size();
        if (all == 0) {
            throw new ArithmeticException();
        }
        int accepted = 0;
        for (int i = 0; i < all; i++) {
            Paper it = papers.get(i);
            if (it.state == 'a' || it.isOut()) {
                accepted++;
            }
        }
        return (float) accepted / (float) all;
    }

    public double meanScore() throws ArithmeticException {
        int sum = 0;
        int many = 0;
        for (int i = 0; i < people.count; i++) {
            sum += people.scores[i];
            many += people.given[i];
        }
        if (many == 0) {
            throw new ArithmeticException();
        }
        return (double) sum / (double) many;
    }

    public boolean isSound() {
        for (int i = 0; i < papers.size(); i++) {
            Paper it = papers.get(i);
            int authors = it.versions.everAuthors();
            if (it.state != it.file.toldState() || !it.versions.areSignedWell()
                    || (authors & (it.reporters() | it.panel.members)) != 0
                    || it.isOut() && !holds(it.versions.signed, it.versions.shown)) {
                return false;
            }
        }
        return true;
    }

    // ---- what the calls ask for

    private static boolean isWithin(int number, int least, int most) {
        return number >= least && number <= most;
    }

    private static boolean holds(int set, int number) {
        return number >= 0 && number < 32 && (set >> number & 1) != 0;
    }

    private static int wordsAlike(int words, int others) {
        int either = Integer.bitCount(words | others);
        return either == 0 ? 0 : Integer.bitCount(words & others) * 100 / either;
    }

    private void needPerson(int person) {
        if (person < 0 || person >= people.count) {
            throw new IndexOutOfBoundsException();
        }
    }

    private static void needField(int field) {
        if (field < 0 || field >= FIELDS) {
            throw new IllegalArgumentException();
        }
    }

    private static void needWords(int words) {
        if (!isWithin(words, 0, MOST_WORDS)) {
            throw new IllegalArgumentException();
        }
    }

    private void needPaper(int paper) {
        if (paper < 0 || paper >= papers.size()) {
            throw new IndexOutOfBoundsException();
        }
    }

    private Paper paperAt(int paper) {
        needPaper(paper);
        return papers.get(paper);
    }

    // ---- conflicts

    /** All who have a conflict with a person on this day, this one included. */
    private int boundTo(int person) {
        if (person < 0 || person >= people.count) {
            return 0;
        }
        int bound = people.boundByLife(person, day);
        for (int i = 0; i < papers.size(); i++) {
            bound |= papers.get(i).versions.authorsWith(person);
        }
        return bound;
    }

    private boolean areBound(int person, int other) {
        return holds(boundTo(person), other);
    }

    private boolean hasTiedAuthor(int person, Paper it) {
        return (boundTo(person) & it.versions.everAuthors()) != 0;
    }

    private boolean canJudge(int person, Paper it) {
        int bound = boundTo(person);
        return (bound & it.versions.everAuthors()) == 0 && !holds(bound, it.editor);
    }

    // ---- editors and referees

    /** How many papers an editor has at work. */
    private int loadOf(int person) {
        int load = 0;
        for (int i = 0; i < papers.size(); i++) {
            Paper it = papers.get(i);
            boolean atWork = it.state == 'd' || it.state == 'e' || it.state == 'q' || it.state == 'k';
            if (atWork && it.editor == person) {
                load++;
            }
        }
        return load;
    }

    private boolean canEdit(int person, Paper it) {
        int way = net.nearest(people.journals[person], it.field);
        return (way == 0 || way == 1) && !people.isAway(person, day) && !holds(it.rejecters, person)
                && loadOf(person) < MOST_LOAD && !hasTiedAuthor(person, it);
    }

    private int bestEditor(Paper it) {
        int best = NONE;
        int bestRank = 0;
        for (int i = 0; i < people.count; i++) {
            if (canEdit(i, it)) {
                int rank = net.nearest(people.journals[i], it.field) * MOST_LOAD + loadOf(i);
                if (best == NONE || rank < bestRank) {
                    best = i;
                    bestRank = rank;
                }
            }
        }
        return best;
    }

    /** How many invitations a person has that are open, or taken without a report. */
    private int pendingOf(int person) {
        int pending = 0;
        for (int i = 0; i < papers.size(); i++) {
            char status = papers.get(i).asked[person];
            if (status == 'o' || status == 'k') {
                pending++;
            }
        }
        return pending;
    }

    private int commonWords(int person, Paper it) {
        return Integer.bitCount(people.words[person] & it.versions.lastWords());
    }

    private boolean canBeAsked(int person, Paper it) {
        return it.asked[person] == '-' && commonWords(person, it) > 0 && !people.isAway(person, day)
                && canJudge(person, it);
    }

    private int nextReferee(Paper it) {
        int best = NONE;
        int bestRank = 0;
        for (int i = 0; i < people.count; i++) {
            if (canBeAsked(i, it)) {
                int rank = commonWords(i, it) * (MOST_PAPERS + 1) - pendingOf(i);
                if (best == NONE || rank > bestRank) {
                    best = i;
                    bestRank = rank;
                }
            }
        }
        return best;
    }

    // ---- decisions

    private int evenedScore(Report its) {
        return people.evenOut(its.referee, its.score);
    }

    /** The greatest difference of evened scores of the reports that count. */
    private int spreadOf(Paper it) {
        int least = MOST_EVENED;
        int most = LEAST_EVENED;
        for (int i = 0; i < it.reports.size(); i++) {
            Report its = it.reports.get(i);
            if (its.counts) {
                int score = evenedScore(its);
                least = Math.min(least, score);
                most = Math.max(most, score);
            }
        }
        return most < least ? 0 : most - least;
    }

    private int meanOf(Paper it) {
        int sum = 0;
        int many = 0;
        for (int i = 0; i < it.reports.size(); i++) {
            Report its = it.reports.get(i);
            if (its.counts) {
                sum += evenedScore(its);
                many++;
            }
        }
        return many == 0 ? 0 : Math.floorDiv(sum, many);
    }

    private boolean isRipe(Paper it) {
        int many = it.howManyCount();
        return many >= net.needs[it.field] && (many != 2 || spreadOf(it) <= 40);
    }

    private char verdictOn(int paper, Paper it) {
        boolean isTorn = it.howManyCount() >= 3 && spreadOf(it) > 60;
        if (!it.confirmed && (isTorn || it.hasAlarm())) {
            return 'k';
        }
        int mean = meanOf(it);
        if (mean < net.rejects[it.field]) {
            return 'x';
        }
        if (it.howManyOpen() > 0 || mean < net.accepts[it.field] || lowestEqual(paper, it) != NONE) {
            return it.versions.count >= MOST_VERSIONS ? 'x' : 'q';
        }
        return 'a';
    }

    // ---- equal papers

    private int lowestEqual(int paper, Paper it) {
        for (int i = 0; i < papers.size(); i++) {
            if (i != paper && comesAhead(i, papers.get(i), paper, it) && isSame(i, papers.get(i), it)) {
                return i;
            }
        }
        return NONE;
    }

    private static boolean comesAhead(int other, Paper its, int paper, Paper it) {
        int first = its.firstDay();
        int second = it.firstDay();
        return first != NONE && (second == NONE || first < second || first == second && other < paper);
    }

    private static boolean isSame(int other, Paper its, Paper it) {
        return its.state != 'w' && its.state != 't' && !holds(it.cites, other)
                && (its.versions.everAuthors() & it.versions.everAuthors()) == 0
                && wordsAlike(its.versions.lastWords(), it.versions.lastWords()) >= 80;
    }

    // ---- committees

    private boolean canSit(int person, Paper it) {
        return people.journals[person] != 0 && !people.isAway(person, day) && !holds(it.editors, person)
                && !holds(it.reporters(), person) && !hasTiedAuthor(person, it);
    }

    private int chooseMembers(Paper it) {
        int members = 0;
        int barred = 0;
        for (int i = 0; i < COMMITTEE; i++) {
            int next = nextMember(it, barred);
            if (next != NONE) {
                members |= 1 << next;
                barred |= boundTo(next);
            }
        }
        return members;
    }

    /** The nearest who can sit and has no conflict with those taken, who are themselves among the barred. */
    private int nextMember(Paper it, int barred) {
        int best = NONE;
        int bestWay = 0;
        for (int i = 0; i < people.count; i++) {
            if (!holds(barred, i) && canSit(i, it)) {
                int way = net.nearest(people.journals[i], it.field);
                int rank = way == NONE ? FIELDS : way;
                if (best == NONE || rank < bestWay) {
                    best = i;
                    bestWay = rank;
                }
            }
        }
        return best;
    }

    /** Whether a member who has not voted cannot vote any more. */
    private boolean hasBarredMember(Paper it) {
        for (int i = 0; i < people.count; i++) {
            if (holds(it.panel.members, i) && !holds(it.panel.voters(), i) && hasTiedAuthor(i, it)) {
                return true;
            }
        }
        return false;
    }

    private void confirmPaper(int paper, Paper it) {
        it.file.note('V');
        if (it.state == 'k') {
            it.state = 'e';
            it.confirmed = true;
        } else if (it.state == 'p') {
            takeBack(paper, it);
        }
    }

    private static void denyPaper(Paper it) {
        it.file.note('D');
        if (it.state == 'k') {
            it.state = 'x';
        }
    }

    // ---- concerns

    private int takeBack(int paper, Paper it) {
        it.state = 't';
        it.panel.dissolve();
        it.panel.complaintWaits = false;
        it.file.note('R');
        return spreadConcern(paper);
    }

    private int spreadConcern(int retracted) {
        int all = 0;
        for (int round = 0; round < MOST_PAPERS; round++) {
            all += spreadOnce(retracted);
        }
        return all;
    }

    private int spreadOnce(int retracted) {
        int got = 0;
        for (int i = 0; i < papers.size(); i++) {
            Paper it = papers.get(i);
            boolean cites = holds(it.cites, retracted) || (it.cites & withConcern()) != 0;
            if (it.state == 'p' && !it.concern && cites) {
                it.concern = true;
                it.file.note('C');
                got++;
            }
        }
        return got;
    }

    private int withConcern() {
        int set = 0;
        for (int i = 0; i < papers.size(); i++) {
            if (papers.get(i).concern) {
                set |= 1 << i;
            }
        }
        return set;
    }

    private void clearConcern(Paper it) {
        for (int i = 0; i < papers.size(); i++) {
            if (holds(it.cites, i) && (papers.get(i).state == 't' || papers.get(i).concern)) {
                return;
            }
        }
        it.concern = false;
    }

    // ---- sight

    private static boolean seesAuthor(int viewer, Paper it, int person) {
        if (!holds(it.versions.everAuthors(), person)) {
            return false;
        }
        return it.isOut() || it.shownOn != NONE || holds(it.versions.everAuthors(), viewer);
    }

    private static boolean seesEditor(int viewer, Paper it, int person) {
        return person == it.editor && (holds(it.versions.everAuthors(), viewer) || it.isReferee(viewer));
    }

    private boolean seesReferee(int viewer, Paper it, int person) {
        char way = net.way[it.field];
        int authors = it.versions.everAuthors();
        if (way != 'd' && it.isReferee(viewer) && holds(authors, person)) {
            return true;
        }
        boolean isJudge = holds(authors, viewer) || it.reportBy(viewer) != null;
        return way == 'o' && isJudge && it.reportBy(person) != null;
    }

    // ---- indexes

    /** The published papers that a person is an author of, in the public version, and another one is not. */
    private int publishedBy(int person, int other) {
        int set = 0;
        for (int i = 0; i < papers.size(); i++) {
            int authors = papers.get(i).publicAuthors();
            if (holds(authors, person) && !holds(authors, other)) {
                set |= 1 << i;
            }
        }
        return set;
    }

    private int publishedIn(int field) {
        int set = 0;
        for (int i = 0; i < papers.size(); i++) {
            Paper it = papers.get(i);
            if (it.state == 'p' && it.field == field) {
                set |= 1 << i;
            }
        }
        return set;
    }

    private int citedByAll(int set) {
        int cited = 0;
        for (int i = 0; i < papers.size(); i++) {
            if (holds(set, i)) {
                cited |= papers.get(i).cites;
            }
        }
        return cited;
    }

    /** How many published papers of other authors cite a paper. */
    private int strangersCiting(int paper, int authors) {
        int many = 0;
        for (int i = 0; i < papers.size(); i++) {
            Paper it = papers.get(i);
            if (it.state == 'p' && holds(it.cites, paper) && (it.publicAuthors() & authors) == 0) {
                many++;
            }
        }
        return many;
    }

    private int citedAtLeast(int person, int least) {
        int many = 0;
        for (int i = 0; i < papers.size(); i++) {
            int authors = papers.get(i).publicAuthors();
            if (holds(authors, person) && strangersCiting(i, authors) >= least) {
                many++;
            }
        }
        return many;
    }

    private int stepsFrom(int person) {
        int steps = 0;
        for (int i = 0; i < people.count; i++) {
            int cited = citedByAll(publishedBy(person, i)) & publishedBy(i, person);
            if (i != person && Integer.bitCount(cited) >= 2) {
                steps |= 1 << i;
            }
        }
        return steps;
    }

    /** All who are or were an author of a paper to which a person gave a score of 70 or more. */
    private int praisedBy(int person) {
        int praised = 0;
        for (int i = 0; i < papers.size(); i++) {
            Paper it = papers.get(i);
            if (it.bestScoreBy(person) >= 70) {
                praised |= it.versions.everAuthors();
            }
        }
        return praised;
    }

    /** All people, each with what binds this one but for papers. */
    private static final class People {
        int count = 0;
        final int[] house = new int[MOST_PEOPLE];
        final int[] words = new int[MOST_PEOPLE];
        final int[] awayTo = new int[MOST_PEOPLE];
        final int[] kin = new int[MOST_PEOPLE];
        final int[] journals = new int[MOST_PEOPLE];
        final int[] scores = new int[MOST_PEOPLE];
        final int[] given = new int[MOST_PEOPLE];
        final int[] leftOn = new int[MOST_PEOPLE * HOUSES];
        final int[] moneyTo = new int[MOST_PEOPLE * MOST_PEOPLE];

        People() {
            Arrays.fill(awayTo, -1);
            Arrays.fill(leftOn, -HOUSE_DAYS);
            Arrays.fill(moneyTo, -1);
        }

        int enter(int itsHouse, int itsWords) {
            if (count >= MOST_PEOPLE) {
                return count;
            }
            house[count] = itsHouse;
            words[count] = itsWords;
            count++;
            return count - 1;
        }

        boolean isAway(int person, int day) {
            return day <= awayTo[person];
        }

        boolean wasIn(int person, int itsHouse, int day) {
            return house[person] == itsHouse || day - leftOn[person * HOUSES + itsHouse] < HOUSE_DAYS;
        }

        int boundByLife(int person, int day) {
            int bound = kin[person] | 1 << person;
            for (int i = 0; i < count; i++) {
                if (wasIn(person, house[i], day) || wasIn(i, house[person], day)
                        || day <= moneyTo[person * MOST_PEOPLE + i]) {
                    bound |= 1 << i;
                }
            }
            return bound;
        }

        void noteScore(int person, int score) {
            scores[person] += score;
            given[person]++;
        }

        int evenOut(int person, int score) {
            int mean = given[person] == 0 ? 0 : scores[person] / given[person];
            return 50 + score - mean;
        }
    }

    /** The fields with their ties and rules. */
    private static final class Net {
        final int[] ties = new int[FIELDS];
        final int[] needs = new int[FIELDS];
        final int[] accepts = new int[FIELDS];
        final int[] rejects = new int[FIELDS];
        final char[] way = new char[FIELDS];

        Net() {
            for (int i = 0; i < FIELDS; i++) {
                needs[i] = 2;
                accepts[i] = 50;
                rejects[i] = 35;
                way[i] = 's';
            }
        }

        boolean join(int field, int other) {
            boolean isNew = !holds(ties[field], other);
            ties[field] |= 1 << other;
            ties[other] |= 1 << field;
            return isNew;
        }

        /** The least distance of any field of a set from a field, NONE without any way. */
        int nearest(int set, int field) {
            int reached = 1 << field;
            for (int ways = 0; ways < FIELDS; ways++) {
                if ((set & reached) != 0) {
                    return ways;
                }
                reached |= tiedTo(reached);
            }
            return NONE;
        }

        int tiedTo(int set) {
            int tied = 0;
            for (int i = 0; i < FIELDS; i++) {
                if (holds(set, i)) {
                    tied |= ties[i];
                }
            }
            return tied;
        }
    }

    /** A paper with all that is kept of it. */
    private static final class Paper {
        int field;
        char state = 'd';
        final Versions versions = new Versions();
        final Letters file = new Letters();
        final Program program = new Program();
        final Panel panel = new Panel();
        final ArrayList<Report> reports = new ArrayList<Report>();
        // How the invitation of each person stands, and the day on which it was sent.
        final char[] asked = new char[MOST_PEOPLE];
        final int[] askedOn = new int[MOST_PEOPLE];
        int editor = NONE;
        int editors = 0;
        int rejecters = 0;
        boolean confirmed = false;
        boolean appealed = false;
        int shownOn = NONE;
        int publishedOn = NONE;
        int heldTo = 0;
        int cites = 0;
        boolean concern = false;

        Paper(int itsField) {
            field = itsField;
            for (int i = 0; i < MOST_PEOPLE; i++) {
                asked[i] = '-';
            }
        }

        /** Whether it is published or retracted. */
        boolean isOut() {
            return state == 'p' || state == 't';
        }

        boolean correctionWaits() {
            return state == 'p' && versions.shown < versions.last();
        }

        /** The authors in the public version while it is published, nobody otherwise. */
        int publicAuthors() {
            return state == 'p' ? versions.authorsOf(versions.shown) : 0;
        }

        /** The day that its priority is, NONE without one. */
        int firstDay() {
            return shownOn == NONE ? publishedOn : shownOn;
        }

        void ask(int person, int day) {
            asked[person] = 'o';
            askedOn[person] = day;
            file.note('i');
        }

        int howManyAsked(char status) {
            int many = 0;
            for (int i = 0; i < MOST_PEOPLE; i++) {
                if (asked[i] == status) {
                    many++;
                }
            }
            return many;
        }

        int letLapse(int day) {
            int lapsed = 0;
            for (int i = 0; i < MOST_PEOPLE; i++) {
                if (asked[i] == 'o' && day - askedOn[i] > LAPSE_DAYS) {
                    asked[i] = 'z';
                    file.note('z');
                    lapsed++;
                }
            }
            return lapsed;
        }

        /** Makes a rejected paper one without an editor, an invitation, and most or all reports. */
        void startAnew(boolean keepsReports) {
            state = 's';
            editor = NONE;
            for (int i = 0; i < MOST_PEOPLE; i++) {
                asked[i] = '-';
            }
            for (int i = 0; i < reports.size(); i++) {
                Report its = reports.get(i);
                its.counts = its.counts && its.goesAlong && keepsReports;
            }
        }

        /** All who have reported on it ever. */
        int reporters() {
            int set = 0;
            for (int i = 0; i < reports.size(); i++) {
                set |= 1 << reports.get(i).referee;
            }
            return set;
        }

        /** The later report of a person that counts, null without one. */
        Report reportBy(int person) {
            Report later = null;
            for (int i = 0; i < reports.size(); i++) {
                Report its = reports.get(i);
                if (its.counts && its.referee == person) {
                    later = its;
                }
            }
            return later;
        }

        int bestScoreBy(int person) {
            int best = NONE;
            for (int i = 0; i < reports.size(); i++) {
                Report its = reports.get(i);
                if (its.referee == person) {
                    best = Math.max(best, its.score);
                }
            }
            return best;
        }

        int howManyCount() {
            int many = 0;
            for (int i = 0; i < reports.size(); i++) {
                if (reports.get(i).counts) {
                    many++;
                }
            }
            return many;
        }

        int howManyOpen() {
            int many = 0;
            for (int i = 0; i < reports.size(); i++) {
                Report its = reports.get(i);
                if (its.counts) {
                    many += Integer.bitCount(its.open);
                }
            }
            return many;
        }

        boolean hasAlarm() {
            for (int i = 0; i < reports.size(); i++) {
                Report its = reports.get(i);
                if (its.counts && its.alarmed) {
                    return true;
                }
            }
            return false;
        }

        boolean isReferee(int person) {
            return asked[person] != '-' || reportBy(person) != null;
        }

        boolean hasRole(int person) {
            return person == editor || holds(versions.everAuthors() | panel.members, person) || isReferee(person);
        }
    }

    /** The versions of a paper with their signatures. */
    private static final class Versions {
        int count = 0;
        int signed = 0;
        int shown = NONE;
        final int[] authors = new int[MOST_VERSIONS];
        final int[] words = new int[MOST_VERSIONS];
        final int[] signatures = new int[MOST_VERSIONS];

        void open(int itsAuthors, int itsWords) {
            if (count < MOST_VERSIONS) {
                authors[count] = itsAuthors;
                words[count] = itsWords;
                count++;
            }
        }

        int last() {
            return count - 1;
        }

        int authorsOf(int version) {
            return version >= 0 && version < count ? authors[version] : 0;
        }

        int lastAuthors() {
            return authorsOf(last());
        }

        int lastWords() {
            return count > 0 ? words[count - 1] : 0;
        }

        void setAuthors(int itsAuthors) {
            if (count > 0) {
                authors[count - 1] = itsAuthors;
                signatures[count - 1] = 0;
            }
        }

        /** Whose signatures a version needs: those of its authors, and of those of the version ahead. */
        int needed(int version) {
            return authorsOf(version) | authorsOf(version - 1);
        }

        /** Whether the last version still needs the signature of a person. */
        boolean lacks(int person) {
            return count > 0 && holds(needed(last()) & ~signatures[count - 1], person);
        }

        /** Puts a signature under the last version, and tells whether it is signed then. */
        boolean putSignature(int person) {
            if (count <= 0) {
                return false;
            }
            signatures[count - 1] |= 1 << person;
            if ((needed(last()) & ~signatures[count - 1]) != 0) {
                return false;
            }
            signed |= 1 << last();
            return true;
        }

        boolean areSignedWell() {
            for (int i = 0; i < count; i++) {
                if (holds(signed, i) && (needed(i) & ~signatures[i]) != 0) {
                    return false;
                }
            }
            return true;
        }

        int everAuthors() {
            int set = 0;
            for (int i = 0; i < count; i++) {
                set |= authors[i];
            }
            return set;
        }

        /** All who are authors of one version together with a person. */
        int authorsWith(int person) {
            int set = 0;
            for (int i = 0; i < count; i++) {
                if (holds(authors[i], person)) {
                    set |= authors[i];
                }
            }
            return set;
        }
    }

    /** A report of a referee. */
    private static final class Report {
        final int referee;
        final int score;
        final int points;
        final boolean goesAlong;
        final int version;
        int open;
        boolean alarmed = false;
        boolean counts = true;

        Report(int itsReferee, int itsScore, int itsPoints, boolean mayGoAlong, int itsVersion) {
            referee = itsReferee;
            score = itsScore;
            points = itsPoints;
            goesAlong = mayGoAlong;
            version = itsVersion;
            open = (1 << itsPoints) - 1;
        }

        boolean isOpen(int point) {
            return point >= 0 && point < points && holds(open, point);
        }
    }

    /** The committee of a paper and the complaints of it. */
    private static final class Panel {
        int members = 0;
        int confirming = 0;
        int denying = 0;
        int complaints = 0;
        boolean complaintWaits = false;

        void dissolve() {
            members = 0;
            confirming = 0;
            denying = 0;
        }

        int voters() {
            return confirming | denying;
        }

        /** Puts a vote, and tells whether it is the second one for the same. */
        boolean putVote(int person, boolean confirms) {
            if (confirms) {
                confirming |= 1 << person;
                return Integer.bitCount(confirming) >= 2;
            }
            denying |= 1 << person;
            return Integer.bitCount(denying) >= 2;
        }
    }

    /** The program of a paper with its claim. */
    private static final class Program {
        int count = 0;
        int claimed = 0;
        final char[] operations = new char[MOST_STEPS];
        final int[] numbers = new int[MOST_STEPS];

        void put(char operation, int number) {
            if (count < MOST_STEPS) {
                operations[count] = operation;
                numbers[count] = number;
                count++;
            }
        }

        /** Whether the steps end with the claim. */
        boolean comesOut() {
            int result = 0;
            for (int i = 0; i < count; i++) {
                if (operations[i] == '/' && numbers[i] == 0) {
                    return false;
                }
                result = next(result, operations[i], numbers[i]);
            }
            return result == claimed;
        }

        private static int next(int result, char operation, int number) {
            switch (operation) {
                case '+':
                    return result + number;
                case '-':
                    return result - number;
                case '*':
                    return result * number;
                default:
                    return number == 0 ? 0 : result / number;
            }
        }
    }

    /** The letters about a paper. */
    private static final class Letters {
        // 512 calls cannot write as many about one paper.
        private static final int MOST_LETTERS = 8192;

        int count = 0;
        private int[] signs = new int[32];

        void note(char sign) {
            if (count >= MOST_LETTERS) {
                return;
            }
            if (count >= signs.length) {
                signs = Arrays.copyOf(signs, 2 * count);
            }
            signs[count] = sign;
            count++;
        }

        char at(int index) {
            return index >= 0 && index < count ? (char) signs[index] : ' ';
        }

        long addTo(long sum) {
            long result = sum;
            for (int i = 0; i < count; i++) {
                result = result * 31 + signs[i];
            }
            return result;
        }

        /** The state that the letters tell, gone through from the first to the last one. */
        char toldState() {
            char told = ' ';
            boolean hasEditor = false;
            for (int i = 0; i < count; i++) {
                char sign = (char) signs[i];
                if (sign == 'E') {
                    hasEditor = true;
                } else if (sign == 'l' || sign == 'T') {
                    hasEditor = false;
                }
                told = stateAfter(told, sign, hasEditor);
            }
            return told;
        }

        private static char stateAfter(char told, char sign, boolean hasEditor) {
            switch (sign) {
                case 'b':
                case 'v':
                    return 'd';
                case 'S':
                case 'E':
                case 'l':
                case 'T':
                    return hasEditor ? 'e' : 's';
                case 'Q':
                case 'A':
                case 'X':
                case 'K':
                case 'P':
                case 'W':
                    return (char) (sign - 'A' + 'a');
                case 'V':
                    return told == 'k' ? 'e' : told;
                case 'D':
                    return told == 'k' ? 'x' : told;
                case 'R':
                    return 't';
                default:
                    return told;
            }
        }
    }
}
