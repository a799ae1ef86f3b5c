import java.util.ArrayList;
import java.util.List;

/**
 * All that can be seen of an object, to tell whether a call changed something. What only shows when it is used
 * (acts, slots, bytes of the text) is used up on objects of their own: each is made anew in the same state.
 */
final class Looks {
    /** Makes an object in some state, each time in the same one. */
    interface Maker {
        ToldNineTimes make();
    }

    interface Call {
        long on(ToldNineTimes x);
    }

    private final List<Long> seen = new ArrayList<>();

    /** What is seen of an object in that state behind the call. */
    static List<Long> behind(Maker maker, Call call) {
        Looks looks = new Looks();
        looks.lookAround(after(maker, call));
        looks.undoAll(after(maker, call));
        looks.goOnFrom(after(maker, call), 0);
        looks.goOnFrom(after(maker, call), 1);
        looks.makeTheText(after(maker, call));
        looks.writeOn(after(maker, call));
        return looks.seen;
    }

    private static ToldNineTimes after(Maker maker, Call call) {
        ToldNineTimes x = maker.make();
        call.on(x);
        return x;
    }

    private void see(long answer) {
        seen.add(answer);
    }

    private void lookAround(ToldNineTimes x) {
        for (int what = 0; what <= 8; what++) {
            see(x.about(what));
        }
        for (int person = 0; person < 6; person++) {
            for (int hour = 0; hour < 6; hour++) {
                see(x.where(person, hour));
            }
        }
        for (int news = 0; news < 3; news++) {
            for (int what = 0; what <= 4; what++) {
                see(x.news(news, what));
            }
            lookForward(x, news);
        }
        // Last: if the fault spoilt the day, it would be spoilt for both that are held side by side.
        see(x.fault());
    }

    private void lookForward(ToldNineTimes x, int news) {
        see(x.most(news));
        see(x.rows(news));
        see(x.judge(news, 2, 90));
        for (int person = 0; person < 6; person++) {
            see(x.told(person, news));
            see(x.left(person, news));
            see(x.may(person, news));
            see(x.fewest(news, 1 << person));
            see(x.planAt(news, 1 << person, 0));
            see(x.spent(news, person));
            see(x.duel(news, person));
            see(x.chance(news, person, 0, 3, true));
        }
    }

    private void undoAll(ToldNineTimes x) {
        long left = 0;
        for (int i = 0; i < 17 && left >= 0; i++) {
            left = x.undo();
            see(left);
            lookAtState(x);
        }
    }

    private void goOnFrom(ToldNineTimes x, int slot) {
        see(x.again(slot));
        see(x.undo());
        lookAtState(x);
        for (int person = 0; person < 6; person++) {
            for (int news = 0; news < 3; news++) {
                see(x.told(person, news));
                see(x.left(person, news));
                see(x.may(person, news));
            }
        }
    }

    private void makeTheText(ToldNineTimes x) {
        see(x.day());
        lookAround(x);
    }

    /** How many bytes find room: so the length is what about(8) says. */
    private void writeOn(ToldNineTimes x) {
        long length = 0;
        for (int i = 0; i < 73 && length >= 0; i++) {
            length = x.write(1, 'N');
            see(length);
        }
        see(x.fault());
    }

    private void lookAtState(ToldNineTimes x) {
        for (int what = 3; what <= 7; what++) {
            see(x.about(what));
        }
        for (int news = 0; news < 3; news++) {
            see(x.news(news, 2));
            see(x.news(news, 3));
            see(x.left(0, news));
            see(x.told(1, news));
        }
    }
}
