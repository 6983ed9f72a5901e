/**
 * A land whose paper 0 has a state, while nothing else is a cause to refuse the calls that this state allows: authors 0
 * and 3, editor 9, reports of 1 and 2 on an elder version that may go along, 4 took an invitation, 5 has an open one.
 * Paper 0 cites paper 2; papers 1 and 2 are drafts of person 6. Persons 5 to 8 can be in a committee.
 */
final class Stage {
    static final String STATES = "dseqkaxpwt";

    private Stage() {
    }

    static Refereehall at(char state) {
        Refereehall x = judged();
        switch (state) {
            case 'd':
                x.revise(0, 1);
                break;
            case 's':
                reject(x);
                x.transfer(0, 1);
                break;
            case 'q':
                x.decide(0);
                break;
            case 'k':
                x.alarm(0, 1);
                x.decide(0);
                break;
            case 'x':
                reject(x);
                break;
            case 'w':
                x.withdraw(0);
                break;
            case 'a':
            case 'p':
            case 't':
                accept(x, state);
                break;
            default:
        }
        Check.due("the state of the stage", x.state(0), state);
        return x;
    }

    private static Refereehall judged() {
        Refereehall x = new Land(9).x;
        x.tie(0, 1);
        x.addEditor(8, 1);
        for (int i = 5; i < 8; i++) {
            x.addEditor(i, 3);
        }
        x.begin(0, 0, 1);
        x.addAuthor(0, 3);
        signAll(x);
        x.begin(6, 2, 0);
        x.begin(6, 2, 0);
        x.cite(0, 2);
        x.assign(0);
        x.invite(0, 5);
        x.answer(0, 1, true);
        x.answer(0, 2, true);
        x.answer(0, 4, true);
        x.report(0, 1, 60, 1, true);
        x.report(0, 2, 60, 0, true);
        x.revise(0, 1);
        signAll(x);
        return x;
    }

    private static void signAll(Refereehall x) {
        x.sign(0, 0);
        x.sign(0, 3);
    }

    private static void reject(Refereehall x) {
        x.setRules(0, 2, 100, 100, 's');
        x.decide(0);
        x.setRules(0, 2, 50, 35, 's');
    }

    private static void accept(Refereehall x, char state) {
        x.meet(0, 1, 0);
        x.decide(0);
        if (state != 'a') {
            x.publish(0);
        }
        if (state == 't') {
            x.retract(0);
        }
    }

    /** 20 people and 12 papers of person 0. */
    static Refereehall full() {
        Refereehall x = new Land().x;
        for (int i = 10; i < 20; i++) {
            x.addPerson(i % 10, 0);
        }
        for (int i = 0; i < 12; i++) {
            x.begin(0, 0, 1);
        }
        return x;
    }
}
