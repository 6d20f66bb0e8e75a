import java.util.ArrayList;
import java.util.List;
import java.util.regex.Matcher;
import java.util.regex.Pattern;

/** The constructor and the methods as the document writes them, without "public". */
final class Signatures {
    private static final Pattern FACE = Pattern.compile("(?m)^    public ([^;{]+);$");
    private static final Pattern PROMISE = Pattern.compile("(?m)^## Promise (\\d+): [^\n]*\n\n`([^`]+)`$");

    private Signatures() {
    }

    static List<String> ofFace(String document) {
        List<String> all = new ArrayList<>();
        Matcher line = FACE.matcher(document);
        while (line.find()) {
            all.add(line.group(1));
        }
        return all;
    }

    /** The signature of promise n stands at the place n - 1. */
    static List<String> ofPromises(String document) {
        List<String> all = new ArrayList<>();
        Matcher promise = PROMISE.matcher(document);
        while (promise.find()) {
            all.add(promise.group(2));
            if (Integer.parseInt(promise.group(1)) != all.size()) {
                Check.fail("the promises are not numbered from 1: " + promise.group());
            }
        }
        return all;
    }

    static String nameIn(String signature) {
        return signature.substring(0, signature.indexOf('(')).replaceAll(".* ", "");
    }

    /** The name and the names of the parameters, as a call is written. */
    static String callIn(String signature) {
        return nameIn(signature) + parametersIn(signature).replaceAll("(\\w+) (\\w+)", "$2");
    }

    /** The types alone, and then the exceptions, with a blank before each. */
    static String typesIn(String signature) {
        int end = signature.indexOf(')') + 1;
        return signature.substring(0, signature.indexOf('(')) + parametersIn(signature).replaceAll("(\\w+) (\\w+)", "$1")
            + signature.substring(end).replace(" throws", "").replace(",", "");
    }

    private static String parametersIn(String signature) {
        return signature.substring(signature.indexOf('('), signature.indexOf(')') + 1);
    }
}
