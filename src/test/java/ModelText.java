import java.util.ArrayList;
import java.util.List;
import java.util.regex.Matcher;
import java.util.regex.Pattern;

/** A level's text, cut into tokens first, then followed from state to state. */
final class ModelText {
    private static final Pattern TOKENS = Pattern.compile("[a-z]|[0-9]+|[,;]|(?s:.)");

    int fault;
    int place;
    final Model.World world = new Model.World();

    private char sort;
    private int at;

    ModelText(String text) {
        List<String> tokens = new ArrayList<>();
        List<Integer> places = new ArrayList<>();
        Matcher m = TOKENS.matcher(text);
        while (m.find()) {
            tokens.add(m.group());
            places.add(m.start());
        }
        String state = "m";
        for (int i = 0; i < tokens.size(); i++) {
            state = next(state, tokens.get(i));
            if (fault != 0) {
                place = places.get(i);
                return;
            }
        }
        if (!state.equals("more sounds")) {
            fault = 1;
            place = text.length();
        }
    }

    private String next(String state, String token) {
        return switch (state) {
            case "m" -> sign(token, "m", "cells");
            case "cells" -> number(token, 5, 15, "cells,");
            case "cells," -> sign(token, ",", "mill");
            case "mill" -> number(token, 0, world.cells - 1, "mill,");
            case "mill," -> sign(token, ",", "reach");
            case "reach" -> number(token, 0, 4, "reach;");
            case "reach;" -> sign(token, ";", "first wind");
            case "first wind" -> sign(token, "w", "wind");
            case "wind" -> number(token, 0, 4, "wind;");
            case "wind;" -> sign(token, ";", "more winds");
            case "more winds" -> token.equals("w") ? room(world.winds.size(), "wind") : sound(token);
            case "at" -> number(token, 0, world.cells - 1, "at,");
            case "at," -> sign(token, ",", "loud");
            case "loud" -> number(token, 1, 20, "loud;");
            case "loud;" -> sign(token, ";", "more sounds");
            default -> sound(token);
        };
    }

    private String sign(String token, String wanted, String then) {
        fault = token.equals(wanted) ? 0 : 1;
        return then;
    }

    private String room(int there, String then) {
        fault = there == 6 ? 3 : 0;
        return then;
    }

    private String sound(String token) {
        if (!"vbhds".contains(token)) {
            fault = 1;
            return "at";
        }
        sort = token.charAt(0);
        return room(world.sounds.size(), "at");
    }

    private String number(String token, int least, int most, String then) {
        if (!token.matches("[0-9][0-9]?")) {
            fault = 1;
            return then;
        }
        int v = Integer.parseInt(token);
        if (v < least || v > most) {
            fault = 2;
            return then;
        }
        switch (then) {
            case "cells," -> world.cells = v;
            case "mill," -> world.mill = v;
            case "reach;" -> world.reach = v;
            case "wind;" -> world.winds.add(v);
            case "at," -> at = v;
            default -> world.sounds.add(new Model.Sound(sort, at, v, 'l'));
        }
        return then;
    }
}
