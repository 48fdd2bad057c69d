import java.util.ArrayList;
import java.util.List;

/** What an object answers, by so few calls that three looks at one fit into its 512. */
final class Photo {
    private final SightRows road;
    private final List<String> answers = new ArrayList<>();

    private Photo(SightRows road) {
        this.road = road;
    }

    static List<String> of(SightRows road) {
        Photo photo = new Photo(road);
        int[] stations = chosen(road.count(0));
        for (int station : stations) {
            photo.takeStation(station);
            for (int to : stations) {
                photo.takeView(station, to);
            }
        }
        photo.takeAll();
        return photo.answers;
    }

    /** All stations of a short road, the first three and the last three of a long one. */
    private static int[] chosen(int count) {
        int[] stations = new int[Math.min(count, 6)];
        for (int i = 0; i < stations.length; i++) {
            stations[i] = count > 6 && i >= 3 ? count - 6 + i : i;
        }
        return stations;
    }

    private void take(String call, int answer) {
        answers.add(call + " " + answer);
    }

    private void takeStation(int station) {
        take("way " + station, road.way(station));
        for (boolean back : new boolean[] {false, true}) {
            String looking = " " + station + " " + back;
            take("sight" + looking, road.sight(station, back));
            take("need" + looking, road.need(station, back));
            take("allowed" + looking, road.allowed(station, back));
        }
        for (int side = 0; side < 2; side++) {
            take("setBack " + station + " " + side, road.setBack(station, side));
        }
        take("light " + station, road.light(station, 50, 3));
    }

    private void takeView(int from, int to) {
        if (from != to) {
            take("view " + from + " " + to, road.view(from, to, 0));
            take("view's number " + from + " " + to, road.view(from, to, 1));
        }
    }

    private void takeAll() {
        for (int what = 0; what <= 5; what++) {
            take("count " + what, road.count(what));
        }
        for (int k = 0; k < 2; k++) {
            for (int what = 0; what < 2; what++) {
                take("blind on " + k + " " + what, road.blind(false, k, what));
                take("blind back " + k + " " + what, road.blind(true, k, what));
            }
        }
        take("overtake", road.overtake(300));
        take("seen", road.seen(1_000, 100, 150));
        take("seen high", road.seen(1_000, 100, 1_000));
    }
}
